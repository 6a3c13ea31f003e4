def SPX7_limit (S : mSp) : Prop := ∀ (n e : Int) (f0 f : mFn) (g : mGn) (K : mKr) (x0 : Int32), cI n e f0 f g → (∀ (y : Int32), rg 0 8388608 y → K (some (.inl y)) f g) → S [.inl x0] f g K
set_option maxRecDepth 100000 in
set_option maxHeartbeats 4000000 in
theorem sfX7_limit : SPX7_limit spX7_limit := by
  intro n e f0 f g K x0  hI hK
  refine ⟨rfl, fun X hX => ?_⟩
  have b27 : ∀ (s0 : Int32) (s1 : Int32), rg 4096 4096 s0 → rg 0 11 s1 → X 27 [] [.inl s1, .inl s0] f g := by
    intro s0 s1 hs0 hs1
    refine hX.1 2 _ rfl _ _ _ _ ?_
    exact And.intro mRt_i (hK _ (rg_w (c := 0) (d := 8388608) (show rg 0 8388608 _ from (rg_shlV 11 hs0 hs1 (by decide +kernel))) (by decide +kernel)) )
  refine hX.1 0 _ rfl _ _ _ _ ?_
  refine And.intro (fun c2 => ?_) (fun c2 => ?_)
  · -- 25
    refine hX.1 1 _ rfl _ _ _ _ ?_
    exact hX.2 _ _ [] _ _ _ mW0 (b27 _ _ (rg_w (c := 4096) (d := 4096) (rg_c (a := 4096) (b := 4096) (by decide +kernel)) (by decide +kernel)) (rg_w (c := 0) (d := 11) (rg_c (a := 11) (b := 11) (by decide +kernel)) (by decide +kernel)))
  · -- on
    exact hX.2 _ _ [] _ _ _ mW0 (b27 _ _ (rg_w (c := 4096) (d := 4096) (rg_c (a := 4096) (b := 4096) (by decide +kernel)) (by decide +kernel)) (rg_w (c := 0) (d := 11) (show rg 0 10 _ from (rg_lt (show rg 0 15 _ from (rg_or (k := 4) (show rg 0 8 _ from (rg_andR (rg_c (a := 8) (b := 8) (by decide +kernel)) (by decide +kernel))) (show rg 0 7 _ from (rg_andR (rg_c (a := 7) (b := 7) (by decide +kernel)) (by decide +kernel))) (by decide +kernel))) (rg_c (a := 11) (b := 11) (by decide +kernel)) (rg_nle c2) (by decide +kernel))) (by decide +kernel)))
def SPX7_cycle (S : mSp) : Prop := ∀ (n e : Int) (f0 f : mFn) (g : mGn) (K : mKr), cI n e f0 f g → (∀ (y : Int32) (f' : mFn) (g' : mGn), rg 0 1 y → cI n e f0 f' g' → K (some (.inl y)) f' g') → S [.inr 7] f g K
set_option maxRecDepth 100000 in
set_option maxHeartbeats 4000000 in
theorem sfX7_cycle : SPX7_cycle spX7_cycle := by
  intro n e f0 f g K   hI hK
  refine ⟨rfl, fun X hX => ?_⟩
  obtain ⟨S_X7_limit, k_X7_limit, hX⟩ : ∃ S_X7_limit, SPX7_limit S_X7_limit ∧ mR shC fdX7_cycle [(22, 1, 1, 0, S_X7_limit)] bsX7_cycle (fun r f g => mRt (some .boolean) r ∧ K r f g) X := ⟨spX7_limit, sfX7_limit, hX⟩
  have b36 : ∀ (f : mFn) (g : mGn), cI n e f0 f g → X 36 [(0, .inr 7)] [] f g := by
    intro f g  hI
    refine hX.1 1 _ rfl _ _ _ _ ?_
    refine And.intro (rg_in (rg_c (a := 96) (b := 96) (by decide +kernel)) (by decide +kernel)) ?_
    refine And.intro (fun c15 => ?_) (fun c15 => ?_)
    · -- 58
      refine hX.1 2 _ rfl _ _ _ _ ?_
      refine k_X7_limit n e f0 _ _ _ _  (cP0 hI (by decide +kernel)) (fun y17 hy17 => ?_)
      refine And.intro (fun c20 => ?_) (fun c20 => ?_)
      · -- 81
        refine hX.1 3 _ rfl _ _ _ _ ?_
        refine And.intro (fun c22 => ?_) (fun c22 => ?_)
        · -- 95
          refine hX.1 4 _ rfl _ _ _ _ ?_
          refine And.intro (rg_in (rg_c (a := 96) (b := 96) (by decide +kernel)) (by decide +kernel)) ?_
          exact And.intro (mRt_z (rg_01 (rg_c (a := 0) (b := 0) (by decide +kernel)) (by decide +kernel))) (hK _ _ _ (rg_w (c := 0) (d := 1) (rg_c (a := 0) (b := 0) (by decide +kernel)) (by decide +kernel)) (gI_a0 (cP0 (cP0 hI (by decide +kernel)) (by decide +kernel)) (by decide +kernel)))
        · -- on
          exact And.intro (mRt_z (rg_01 (rg_c (a := 1) (b := 1) (by decide +kernel)) (by decide +kernel))) (hK _ _ _ (rg_w (c := 0) (d := 1) (rg_c (a := 1) (b := 1) (by decide +kernel)) (by decide +kernel)) (cP0 (cP0 hI (by decide +kernel)) (by decide +kernel)))
      · -- on
        exact And.intro (mRt_z (rg_01 (rg_c (a := 0) (b := 0) (by decide +kernel)) (by decide +kernel))) (hK _ _ _ (rg_w (c := 0) (d := 1) (rg_c (a := 0) (b := 0) (by decide +kernel)) (by decide +kernel)) (cP0 hI (by decide +kernel)))
    · -- on
      exact And.intro (mRt_z (rg_01 (rg_c (a := 0) (b := 0) (by decide +kernel)) (by decide +kernel))) (hK _ _ _ (rg_w (c := 0) (d := 1) (rg_c (a := 0) (b := 0) (by decide +kernel)) (by decide +kernel)) (cP0 hI (by decide +kernel)))
  refine hX.1 0 _ rfl _ _ _ _ ?_
  refine And.intro (fun c25 => ?_) (fun c25 => ?_)
  · -- 36
    exact hX.2 _ _ [(0, .inr 7)] _ _ _ (mWc rfl mW0) (b36  _ _  hI)
  · -- on
    refine And.intro (fun c27 => ?_) (fun c27 => ?_)
    · -- 36
      exact hX.2 _ _ [(0, .inr 7)] _ _ _ (mWc rfl mW0) (b36  _ _  (cP0 hI (by decide +kernel)))
    · -- on
      refine And.intro (rg_in (rg_c (a := 96) (b := 96) (by decide +kernel)) (by decide +kernel)) ?_
      refine And.intro (rg_in (rg_c (a := 96) (b := 96) (by decide +kernel)) (by decide +kernel)) ?_
      exact hX.2 _ _ [(0, .inr 7)] _ _ _ (mWc rfl mW0) (b36  _ _  (gI_a0 (cP0 hI (by decide +kernel)) (by decide +kernel)))
def SPX5_cycle (S : mSp) : Prop := ∀ (n e : Int) (f0 f : mFn) (g : mGn) (K : mKr), cI n e f0 f g → (∀ (y : Int32) (f' : mFn) (g' : mGn), rg 0 1 y → cI n e f0 f' g' → K (some (.inl y)) f' g') → S [.inr 1] f g K
set_option maxRecDepth 100000 in
set_option maxHeartbeats 4000000 in
theorem sfX5_cycle : SPX5_cycle spX5_cycle := by
  intro n e f0 f g K   hI hK
  refine ⟨rfl, fun X hX => ?_⟩
  obtain ⟨S_X3_cycle, k_X3_cycle, S_X6_cycle, k_X6_cycle, S_X4_cycle, k_X4_cycle, S_X2_cycle, k_X2_cycle, S_X7_cycle, k_X7_cycle, hX⟩ : ∃ S_X3_cycle, SPX3_cycle S_X3_cycle ∧ ∃ S_X6_cycle, SPX6_cycle S_X6_cycle ∧ ∃ S_X4_cycle, SPX4_cycle S_X4_cycle ∧ ∃ S_X2_cycle, SPX2_cycle S_X2_cycle ∧ ∃ S_X7_cycle, SPX7_cycle S_X7_cycle ∧ mR shC fdX5_cycle [(74, 0, 0, 6, S_X3_cycle), (77, 0, 0, 9, S_X6_cycle), (78, 0, 0, 7, S_X4_cycle), (79, 0, 0, 5, S_X2_cycle), (80, 0, 0, 10, S_X7_cycle)] bsX5_cycle (fun r f g => mRt (some .boolean) r ∧ K r f g) X := ⟨spX3_cycle, sfX3_cycle, spX6_cycle, sfX6_cycle, spX4_cycle, sfX4_cycle, spX2_cycle, sfX2_cycle, spX7_cycle, sfX7_cycle, hX⟩
  have b43 : ∀ (f : mFn) (g : mGn), cI n e f0 f g → X 43 [(0, .inr 1)] [] f g := by
    intro f g  hI
    refine hX.1 1 _ rfl _ _ _ _ ?_
    refine k_X6_cycle n e f0 _ _ _  hI (fun f21 gf21 hI22 => ?_)
    refine k_X4_cycle n e f0 _ _ _  hI22 (fun f24 gf24 hI25 => ?_)
    refine k_X2_cycle n e f0 _ _ _  hI25 (fun f27 gf27 hI28 => ?_)
    refine k_X7_cycle n e f0 _ _ _  hI28 (fun y29 f30 gf30 hy29 hI31 => ?_)
    exact And.intro (mRt_z (rg_01 hy29 (by decide +kernel))) (hK _ _ _ (rg_w (c := 0) (d := 1) hy29 (by decide +kernel)) hI31)
  refine hX.1 0 _ rfl _ _ _ _ ?_
  refine k_X3_cycle n e f0 _ _ _  hI (fun f33 gf33 hI34 => ?_)
  refine And.intro (fun c35 => ?_) (fun c35 => ?_)
  · -- 43
    exact hX.2 _ _ [(0, .inr 1)] _ _ _ (mWc rfl mW0) (b43  _ _  hI34)
  · -- on
    refine And.intro (fun c37 => ?_) (fun c37 => ?_)
    · -- 43
      exact hX.2 _ _ [(0, .inr 1)] _ _ _ (mWc rfl mW0) (b43  _ _  (cP0 hI34 (by decide +kernel)))
    · -- on
      refine And.intro (rg_in (rg_c (a := 85) (b := 85) (by decide +kernel)) (by decide +kernel)) ?_
      refine And.intro (rg_in (rg_c (a := 85) (b := 85) (by decide +kernel)) (by decide +kernel)) ?_
      exact hX.2 _ _ [(0, .inr 1)] _ _ _ (mWc rfl mW0) (b43  _ _  (gI_a0 (cP0 hI34 (by decide +kernel)) (by decide +kernel)))
def SPX8_about (S : mSp) : Prop := ∀ (n e : Int) (f0 f : mFn) (g : mGn) (K : mKr) (x1 : Int32), rg 0 21 x1 → cI n e f0 f g → (∀ (y : Int32), K (some (.inl y)) f g) → S [.inr 0, .inl x1] f g K
set_option maxRecDepth 100000 in
set_option maxHeartbeats 4000000 in
theorem sfX8_about : SPX8_about spX8_about := by
  intro n e f0 f g K x1 hx1 hI hK
  refine ⟨rfl, fun X hX => ?_⟩
  obtain ⟨S_X5_stackPointer, k_X5_stackPointer, S_J6_bitCount_0f7a4, k_J6_bitCount_0f7a4, S_X1_waitingInterrupt, k_X1_waitingInterrupt, hX⟩ : ∃ S_X5_stackPointer, SPX5_stackPointer S_X5_stackPointer ∧ ∃ S_J6_bitCount_0f7a4, SPJ6_bitCount_0f7a4 S_J6_bitCount_0f7a4 ∧ ∃ S_X1_waitingInterrupt, SPX1_waitingInterrupt S_X1_waitingInterrupt ∧ mR shC fdX8_about [(134, 0, 0, 8, S_X5_stackPointer), (158, 1, 1, 0, S_J6_bitCount_0f7a4), (204, 0, 0, 4, S_X1_waitingInterrupt)] bsX8_about (fun r f g => mRt (some .int) r ∧ K r f g) X := ⟨spX5_stackPointer, sfX5_stackPointer, spJ6_bitCount_0f7a4, sfJ6_bitCount_0f7a4, spX1_waitingInterrupt, sfX1_waitingInterrupt, hX⟩
  have b135 : ∀ (s0 : Int32), rg 0 1 s0 → X 135 [] [.inl s0] f g := by
    intro s0 hs0
    refine hX.1 5 _ rfl _ _ _ _ ?_
    exact And.intro mRt_i (hK _ )
  have b311 : ∀ (s0 : Int32), rg 0 1 s0 → X 311 [] [.inl s0] f g := by
    intro s0 hs0
    refine hX.1 25 _ rfl _ _ _ _ ?_
    exact And.intro mRt_i (hK _ )
  refine hX.1 0 _ rfl _ _ _ _ ?_
  refine And.intro (fun c34 => ?_) (fun c34 => ?_)
  · -- 104
    refine hX.1 1 _ rfl _ _ _ _ ?_
    exact And.intro mRt_i (hK _ )
  · -- on
    refine And.intro (fun c35 => ?_) (fun c35 => ?_)
    · -- 112
      refine hX.1 2 _ rfl _ _ _ _ ?_
      refine k_X5_stackPointer n e f0 _ _ _   hI (fun y36 => ?_)
      exact And.intro mRt_i (hK _ )
    · -- on
      refine And.intro (fun c39 => ?_) (fun c39 => ?_)
      · -- 120
        refine hX.1 3 _ rfl _ _ _ _ ?_
        refine And.intro (fun c40 => ?_) (fun c40 => ?_)
        · -- 134
          refine hX.1 4 _ rfl _ _ _ _ ?_
          exact hX.2 _ _ [] _ _ _ mW0 (b135 _ (rg_w (c := 0) (d := 1) (rg_c (a := 0) (b := 0) (by decide +kernel)) (by decide +kernel)))
        · -- on
          exact hX.2 _ _ [] _ _ _ mW0 (b135 _ (rg_w (c := 0) (d := 1) (rg_c (a := 1) (b := 1) (by decide +kernel)) (by decide +kernel)))
      · -- on
        refine And.intro (fun c41 => ?_) (fun c41 => ?_)
        · -- 136
          refine hX.1 6 _ rfl _ _ _ _ ?_
          exact And.intro mRt_i (hK _ )
        · -- on
          refine And.intro (fun c42 => ?_) (fun c42 => ?_)
          · -- 141
            refine hX.1 7 _ rfl _ _ _ _ ?_
            exact And.intro mRt_i (hK _ )
          · -- on
            refine And.intro (fun c43 => ?_) (fun c43 => ?_)
            · -- 146
              refine hX.1 8 _ rfl _ _ _ _ ?_
              exact And.intro mRt_i (hK _ )
            · -- on
              refine And.intro (fun c44 => ?_) (fun c44 => ?_)
              · -- 151
                refine hX.1 9 _ rfl _ _ _ _ ?_
                exact And.intro mRt_i (hK _ )
              · -- on
                refine And.intro (fun c45 => ?_) (fun c45 => ?_)
                · -- 156
                  refine hX.1 10 _ rfl _ _ _ _ ?_
                  exact And.intro mRt_i (hK _ )
                · -- on
                  refine And.intro (fun c46 => ?_) (fun c46 => ?_)
                  · -- 167
                    refine hX.1 11 _ rfl _ _ _ _ ?_
                    refine k_J6_bitCount_0f7a4 n e f0 _ _ _ _  hI (fun y47 hy47 => ?_)
                    exact And.intro mRt_i (hK _ )
                  · -- on
                    refine And.intro (fun c50 => ?_) (fun c50 => ?_)
                    · -- 181
                      refine hX.1 12 _ rfl _ _ _ _ ?_
                      exact And.intro mRt_i (hK _ )
                    · -- on
                      refine And.intro (fun c51 => ?_) (fun c51 => ?_)
                      · -- 192
                        refine hX.1 13 _ rfl _ _ _ _ ?_
                        exact And.intro mRt_i (hK _ )
                      · -- on
                        refine And.intro (fun c52 => ?_) (fun c52 => ?_)
                        · -- 203
                          refine hX.1 14 _ rfl _ _ _ _ ?_
                          exact And.intro mRt_i (hK _ )
                        · -- on
                          refine And.intro (fun c53 => ?_) (fun c53 => ?_)
                          · -- 214
                            refine hX.1 15 _ rfl _ _ _ _ ?_
                            exact And.intro mRt_i (hK _ )
                          · -- on
                            refine And.intro (fun c54 => ?_) (fun c54 => ?_)
                            · -- 225
                              refine hX.1 16 _ rfl _ _ _ _ ?_
                              exact And.intro mRt_i (hK _ )
                            · -- on
                              refine And.intro (fun c55 => ?_) (fun c55 => ?_)
                              · -- 236
                                refine hX.1 17 _ rfl _ _ _ _ ?_
                                exact And.intro mRt_i (hK _ )
                              · -- on
                                refine And.intro (fun c56 => ?_) (fun c56 => ?_)
                                · -- 247
                                  refine hX.1 18 _ rfl _ _ _ _ ?_
                                  exact And.intro mRt_i (hK _ )
                                · -- on
                                  refine And.intro (fun c57 => ?_) (fun c57 => ?_)
                                  · -- 258
                                    refine hX.1 19 _ rfl _ _ _ _ ?_
                                    exact And.intro mRt_i (hK _ )
                                  · -- on
                                    refine And.intro (fun c58 => ?_) (fun c58 => ?_)
                                    · -- 269
                                      refine hX.1 20 _ rfl _ _ _ _ ?_
                                      exact And.intro mRt_i (hK _ )
                                    · -- on
                                      refine And.intro (fun c59 => ?_) (fun c59 => ?_)
                                      · -- 280
                                        refine hX.1 21 _ rfl _ _ _ _ ?_
                                        exact And.intro mRt_i (hK _ )
                                      · -- on
                                        refine And.intro (fun c60 => ?_) (fun c60 => ?_)
                                        · -- 288
                                          refine hX.1 22 _ rfl _ _ _ _ ?_
                                          exact And.intro mRt_i (hK _ )
                                        · -- on
                                          refine And.intro (fun c61 => ?_) (fun c61 => ?_)
                                          · -- 299
                                            refine hX.1 23 _ rfl _ _ _ _ ?_
                                            refine And.intro (fun c62 => ?_) (fun c62 => ?_)
                                            · -- 310
                                              refine hX.1 24 _ rfl _ _ _ _ ?_
                                              exact hX.2 _ _ [] _ _ _ mW0 (b311 _ (rg_w (c := 0) (d := 1) (rg_c (a := 0) (b := 0) (by decide +kernel)) (by decide +kernel)))
                                            · -- on
                                              exact hX.2 _ _ [] _ _ _ mW0 (b311 _ (rg_w (c := 0) (d := 1) (rg_c (a := 1) (b := 1) (by decide +kernel)) (by decide +kernel)))
                                          · -- on
                                            refine And.intro (fun c63 => ?_) (fun c63 => ?_)
                                            · -- 312
                                              refine hX.1 26 _ rfl _ _ _ _ ?_
                                              refine k_X1_waitingInterrupt n e f0 _ _ _   hI (fun y64 hy64 => ?_)
                                              exact And.intro mRt_i (hK _ )
                                            · -- on
                                              exact (rg_no (show rg 1 0 _ from (rg_neN (show rg 21 21 _ from (rg_neL (show rg 20 21 _ from (rg_neL (show rg 19 21 _ from (rg_neL (show rg 18 21 _ from (rg_neL (show rg 17 21 _ from (rg_neL (show rg 16 21 _ from (rg_neL (show rg 15 21 _ from (rg_neL (show rg 14 21 _ from (rg_neL (show rg 13 21 _ from (rg_neL (show rg 12 21 _ from (rg_neL (show rg 11 21 _ from (rg_neL (show rg 10 21 _ from (rg_neL (show rg 9 21 _ from (rg_neL (show rg 8 21 _ from (rg_neL (show rg 7 21 _ from (rg_neL (show rg 6 21 _ from (rg_neL (show rg 5 21 _ from (rg_neL (show rg 4 21 _ from (rg_neL (show rg 3 21 _ from (rg_neL (show rg 2 21 _ from (rg_neL (show rg 1 21 _ from (rg_neL hx1 (rg_c (a := 0) (b := 0) (by decide +kernel)) c34 (by decide +kernel))) (rg_c (a := 1) (b := 1) (by decide +kernel)) c35 (by decide +kernel))) (rg_c (a := 2) (b := 2) (by decide +kernel)) c39 (by decide +kernel))) (rg_c (a := 3) (b := 3) (by decide +kernel)) c41 (by decide +kernel))) (rg_c (a := 4) (b := 4) (by decide +kernel)) c42 (by decide +kernel))) (rg_c (a := 5) (b := 5) (by decide +kernel)) c43 (by decide +kernel))) (rg_c (a := 6) (b := 6) (by decide +kernel)) c44 (by decide +kernel))) (rg_c (a := 7) (b := 7) (by decide +kernel)) c45 (by decide +kernel))) (rg_c (a := 8) (b := 8) (by decide +kernel)) c46 (by decide +kernel))) (rg_c (a := 9) (b := 9) (by decide +kernel)) c50 (by decide +kernel))) (rg_c (a := 10) (b := 10) (by decide +kernel)) c51 (by decide +kernel))) (rg_c (a := 11) (b := 11) (by decide +kernel)) c52 (by decide +kernel))) (rg_c (a := 12) (b := 12) (by decide +kernel)) c53 (by decide +kernel))) (rg_c (a := 13) (b := 13) (by decide +kernel)) c54 (by decide +kernel))) (rg_c (a := 14) (b := 14) (by decide +kernel)) c55 (by decide +kernel))) (rg_c (a := 15) (b := 15) (by decide +kernel)) c56 (by decide +kernel))) (rg_c (a := 16) (b := 16) (by decide +kernel)) c57 (by decide +kernel))) (rg_c (a := 17) (b := 17) (by decide +kernel)) c58 (by decide +kernel))) (rg_c (a := 18) (b := 18) (by decide +kernel)) c59 (by decide +kernel))) (rg_c (a := 19) (b := 19) (by decide +kernel)) c60 (by decide +kernel))) (rg_c (a := 20) (b := 20) (by decide +kernel)) c61 (by decide +kernel))) (rg_c (a := 21) (b := 21) (by decide +kernel)) c63 (by decide +kernel))) (by decide +kernel)).elim
def SPX8_inFlash (S : mSp) : Prop := ∀ (n e : Int) (f0 f : mFn) (g : mGn) (K : mKr) (x0 : Int32), rg 0 2047 x0 → cI n e f0 f g → (∀ (y : Int32), rg 1 1 y → K (some (.inl y)) f g) → S [.inl x0] f g K
set_option maxRecDepth 100000 in
set_option maxHeartbeats 4000000 in
theorem sfX8_inFlash : SPX8_inFlash spX8_inFlash := by
  intro n e f0 f g K x0 hx0 hI hK
  refine ⟨rfl, fun X hX => ?_⟩
  have b16 : ∀ (s0 : Int32), rg 1 1 s0 → X 16 [] [.inl s0] f g := by
    intro s0 hs0
    refine hX.1 2 _ rfl _ _ _ _ ?_
    exact And.intro (mRt_z (rg_01 hs0 (by decide +kernel))) (hK _ (rg_w (c := 1) (d := 1) hs0 (by decide +kernel)) )
  refine hX.1 0 _ rfl _ _ _ _ ?_
  refine And.intro (fun c3 => ?_) (fun c3 => ?_)
  · -- 15
    exact (rg_no (show rg 0 (-1) _ from (rg_lt hx0 (rg_c (a := 0) (b := 0) (by decide +kernel)) c3 (by decide +kernel))) (by decide +kernel)).elim
  · -- on
    refine And.intro (fun c4 => ?_) (fun c4 => ?_)
    · -- 15
      exact (rg_no (show rg 2048 2047 _ from (rg_ge hx0 (rg_c (a := 2048) (b := 2048) (by decide +kernel)) c4 (by decide +kernel))) (by decide +kernel)).elim
    · -- on
      exact hX.2 _ _ [] _ _ _ mW0 (b16 _ (rg_w (c := 1) (d := 1) (rg_c (a := 1) (b := 1) (by decide +kernel)) (by decide +kernel)))
theorem vAddE {x y : Int32} (h1 : -1000000 ≤ x.toInt) (h2 : x.toInt ≤ 1000000) (h3 : -1000000 ≤ y.toInt) (h4 : y.toInt ≤ 1000000) : (x + y).toInt = x.toInt + y.toInt := by
  rw [Int32.toInt_add]; exact rg_bm (by omega) (by omega)
def SPX8_burn (S : mSp) : Prop := ∀ (n e : Int) (f0 f : mFn) (g : mGn) (K : mKr) (x1 x2 x3 x4 x5 x6 : Int32), rg 0 2047 x1 → cI n e f0 f g → (∀ (y : Int32) (g' : mGn), y.toInt = min 10 (2048 - x1.toInt) → cI n e f0 f g' → K (some (.inl y)) f g') → S [.inr 0, .inl x1, .inl x2, .inl x3, .inl x4, .inl x5, .inl x6] f g K
set_option maxRecDepth 100000 in
set_option maxHeartbeats 4000000 in
theorem sfX8_burn : SPX8_burn spX8_burn := by
  intro n e f0 f g K x1 x2 x3 x4 x5 x6 hx1 hI hK
  refine ⟨rfl, fun X hX => ?_⟩
  obtain ⟨S_1, k_1, S_2, k_2, hX⟩ : ∃ S_1, SPX8_inFlash S_1 ∧ ∃ S_2, SPX3_burnPair S_2 ∧ mR shC fdX8_burn [(70, 1, 1, 0, S_1), (83, 0, 2, 6, S_2)] bsX8_burn (fun r f g => mRt (some .int) r ∧ K r f g) X := ⟨spX8_inFlash, sfX8_inFlash, spX3_burnPair, sfX3_burnPair, hX⟩
  have e2 : (2 : Int32).toInt = 2 := by decide
  have e4 : (4 : Int32).toInt = 4 := by decide
  have e6 : (6 : Int32).toInt = 6 := by decide
  have e8 : (8 : Int32).toInt = 8 := by decide
  have hx := hx1
  unfold rg at hx1
  have s2 : (x1 + 2).toInt = x1.toInt + 2 := by rw [vAddE (by omega) (by omega) (by omega) (by omega), e2]
  have s4 : (x1 + 4).toInt = x1.toInt + 4 := by rw [vAddE (by omega) (by omega) (by omega) (by omega), e4]
  have s6 : (x1 + 6).toInt = x1.toInt + 6 := by rw [vAddE (by omega) (by omega) (by omega) (by omega), e6]
  have s8 : (x1 + 8).toInt = x1.toInt + 8 := by rw [vAddE (by omega) (by omega) (by omega) (by omega), e8]
  refine hX.1 0 _ rfl _ _ _ _ ?_
  refine k_1 n e f0 _ _ _ _ (rg_w (c := 0) (d := 2047) hx (by decide +kernel)) hI (fun y20 hy20 => ?_)
  refine And.intro (fun c23 => ?_) (fun c23 => ?_)
  · refine hX.1 1 _ rfl _ _ _ _ ?_
    refine k_2 n e f0 _ _ _ _ _ ⟨by omega, by omega⟩ hI (fun y1 g1 q1 hI1 => ?_)
    refine k_2 n e f0 _ _ _ _ _ ⟨by rw [s2]; omega, by rw [s2]; omega⟩ hI1 (fun y2 g2 q2 hI2 => ?_)
    refine k_2 n e f0 _ _ _ _ _ ⟨by rw [s4]; omega, by rw [s4]; omega⟩ hI2 (fun y3 g3 q3 hI3 => ?_)
    refine k_2 n e f0 _ _ _ _ _ ⟨by rw [s6]; omega, by rw [s6]; omega⟩ hI3 (fun y4 g4 q4 hI4 => ?_)
    refine k_2 n e f0 _ _ _ _ _ ⟨by rw [s8]; omega, by rw [s8]; omega⟩ hI4 (fun y5 g5 q5 hI5 => ?_)
    rw [s2] at q2
    rw [s4] at q3
    rw [s6] at q4
    rw [s8] at q5
    have t1 : (y1 + y2).toInt = y1.toInt + y2.toInt := vAddE (by omega) (by omega) (by omega) (by omega)
    have t2 : (y1 + y2 + y3).toInt = y1.toInt + y2.toInt + y3.toInt := by rw [vAddE (by omega) (by omega) (by omega) (by omega), t1]
    have t3 : (y1 + y2 + y3 + y4).toInt = y1.toInt + y2.toInt + y3.toInt + y4.toInt := by rw [vAddE (by omega) (by omega) (by omega) (by omega), t2]
    have t4 : (y1 + y2 + y3 + y4 + y5).toInt = y1.toInt + y2.toInt + y3.toInt + y4.toInt + y5.toInt := by rw [vAddE (by omega) (by omega) (by omega) (by omega), t3]
    exact And.intro mRt_i (hK _ _ (by rw [t4]; omega) hI5)
  · exact (rg_no (show rg 1 0 _ from (rg_eqN hy20 (rg_c (a := 0) (b := 0) (by decide +kernel)) c23 (by decide +kernel))) (by decide +kernel)).elim
def vPut (x : Int32) : Prop := (0 ≤ x.toInt ∧ x.toInt < 32) ∨ (93 ≤ x.toInt ∧ x.toInt ≤ 95) ∨ (256 ≤ x.toInt ∧ x.toInt < 1280)
def SPX8_canBePut (S : mSp) : Prop := ∀ (f : mFn) (g : mGn) (K : mKr) (x1 : Int32), (∀ y : Int32, (y = 0 → ¬ vPut x1) → (¬ y = 0 → vPut x1) → K (some (.inl y)) f g) → S [.inl x1] f g K
theorem i_32 : (32 : Int32).toInt = 32 := by decide
theorem i_93 : (93 : Int32).toInt = 93 := by decide
theorem i_95 : (95 : Int32).toInt = 95 := by decide
theorem i_256 : (256 : Int32).toInt = 256 := by decide
theorem i_1280 : (1280 : Int32).toInt = 1280 := by decide
set_option maxRecDepth 100000 in
set_option maxHeartbeats 4000000 in
theorem sfX8_canBePut : SPX8_canBePut spX8_canBePut := by
  intro f g K x1 hK
  refine ⟨rfl, fun X hX => ?_⟩
  have b41 : ∀ y : Int32, (y = 0 ∨ y = 1) → (y = 0 → ¬ vPut x1) → (¬ y = 0 → vPut x1) → X 41 [] [.inl y] f g := by
    intro y h0 h1 h2
    refine hX.1 5 _ rfl _ _ _ _ ?_
    exact And.intro (mRt_z h0) (hK y h1 h2)
  have b36 : vPut x1 → X 36 [] [] f g := by
    intro h
    refine hX.1 3 _ rfl _ _ _ _ ?_
    exact b41 _ (Or.inr rfl) (fun z => absurd z (by decide)) (fun _ => h)
  have b40 : ¬ vPut x1 → X 40 [] [] f g := by
    intro h
    refine hX.1 4 _ rfl _ _ _ _ ?_
    exact b41 _ (Or.inl rfl) (fun _ => h) (fun z => absurd rfl z)
  have b22 : ¬ (0 ≤ x1.toInt ∧ x1.toInt < 32) → ¬ (93 ≤ x1.toInt ∧ x1.toInt ≤ 95) → X 22 [(0, .inl x1)] [] f g := by
    intro h1 h2
    refine hX.1 2 _ rfl _ _ _ _ ?_
    refine And.intro (fun c => ?_) (fun c => ?_)
    · have c1 : x1 < 256 := c
      have c2 := Int32.lt_iff_toInt_lt.mp c1
      rw [i_256] at c2
      exact hX.2 _ _ [] _ _ _ mW0 (b40 (by unfold vPut; omega))
    · have c1 : ¬ x1 < 256 := c
      have c2 := Int32.le_iff_toInt_le.mp (rg_nlt c1)
      rw [i_256] at c2
      refine And.intro (fun d => ?_) (fun d => ?_)
      · have d1 : 1280 ≤ x1 := d
        have d2 := Int32.le_iff_toInt_le.mp d1
        rw [i_1280] at d2
        exact hX.2 _ _ [] _ _ _ mW0 (b40 (by unfold vPut; omega))
      · have d1 : ¬ 1280 ≤ x1 := d
        have d2 := Int32.lt_iff_toInt_lt.mp (rg_nle d1)
        rw [i_1280] at d2
        exact hX.2 _ _ [] _ _ _ mW0 (b36 (by unfold vPut; omega))
  have b10 : ¬ (0 ≤ x1.toInt ∧ x1.toInt < 32) → X 10 [(0, .inl x1)] [] f g := by
    intro h1
    refine hX.1 1 _ rfl _ _ _ _ ?_
    refine And.intro (fun c => ?_) (fun c => ?_)
    · have c1 : x1 < 93 := c
      have c2 := Int32.lt_iff_toInt_lt.mp c1
      rw [i_93] at c2
      exact hX.2 _ _ [(0, .inl _)] _ _ _ (mWc rfl mW0) (b22 h1 (by omega))
    · have c1 : ¬ x1 < 93 := c
      have c2 := Int32.le_iff_toInt_le.mp (rg_nlt c1)
      rw [i_93] at c2
      refine And.intro (fun d => ?_) (fun d => ?_)
      · have d1 : x1 ≤ 95 := d
        have d2 := Int32.le_iff_toInt_le.mp d1
        rw [i_95] at d2
        exact hX.2 _ _ [] _ _ _ mW0 (b36 (by unfold vPut; omega))
      · have d1 : ¬ x1 ≤ 95 := d
        have d2 := Int32.lt_iff_toInt_lt.mp (rg_nle d1)
        rw [i_95] at d2
        exact hX.2 _ _ [(0, .inl _)] _ _ _ (mWc rfl mW0) (b22 h1 (by omega))
  refine hX.1 0 _ rfl _ _ _ _ ?_
  refine And.intro (fun c => ?_) (fun c => ?_)
  · have c1 : x1 < 0 := c
    have c2 := Int32.lt_iff_toInt_lt.mp c1
    rw [rg_z] at c2
    exact hX.2 _ _ [(0, .inl _)] _ _ _ (mWc rfl mW0) (b10 (by omega))
  · have c1 : ¬ x1 < 0 := c
    have c2 := Int32.le_iff_toInt_le.mp (rg_nlt c1)
    rw [rg_z] at c2
    refine And.intro (fun d => ?_) (fun d => ?_)
    · have d1 : x1 < 32 := d
      have d2 := Int32.lt_iff_toInt_lt.mp d1
      rw [i_32] at d2
      exact hX.2 _ _ [] _ _ _ mW0 (b36 (by unfold vPut; omega))
    · have d1 : ¬ x1 < 32 := d
      have d2 := Int32.le_iff_toInt_le.mp (rg_nlt d1)
      rw [i_32] at d2
      exact hX.2 _ _ [(0, .inl _)] _ _ _ (mWc rfl mW0) (b10 (by omega))
def SPX8_data (S : mSp) : Prop := ∀ (n e : Int) (f0 f : mFn) (g : mGn) (K : mKr) (x1 : Int32), rg 0 1279 x1 → cI n e f0 f g → (∀ (y : Int32) (f' : mFn) (g' : mGn), cI n e f0 f' g' → K (some (.inl y)) f' g') → S [.inr 0, .inl x1] f g K
set_option maxRecDepth 100000 in
set_option maxHeartbeats 4000000 in
theorem sfX8_data : SPX8_data spX8_data := by
  intro n e f0 f g K x1 hx1 hI hK
  refine ⟨rfl, fun X hX => ?_⟩
  obtain ⟨S_X4_firstReceived, k_X4_firstReceived, S_X5_load, k_X5_load, hX⟩ : ∃ S_X4_firstReceived, SPX4_firstReceived S_X4_firstReceived ∧ ∃ S_X5_load, SPX5_load S_X5_load ∧ mR shC fdX8_data [(94, 0, 0, 7, S_X4_firstReceived), (97, 0, 1, 8, S_X5_load)] bsX8_data (fun r f g => mRt (some .int) r ∧ K r f g) X := ⟨spX4_firstReceived, sfX4_firstReceived, spX5_load, sfX5_load, hX⟩
  have b49 : ∀ (s0 : Int32) (f : mFn) (g : mGn), cI n e f0 f g → X 49 [] [.inl s0] f g := by
    intro s0 f g  hI
    refine hX.1 3 _ rfl _ _ _ _ ?_
    exact And.intro mRt_i (hK _ _ _ hI)
  refine hX.1 0 _ rfl _ _ _ _ ?_
  refine And.intro (fun c10 => ?_) (fun c10 => ?_)
  · -- 11
    exact (rg_no (show rg 0 (-1) _ from (rg_lt hx1 (rg_c (a := 0) (b := 0) (by decide +kernel)) c10 (by decide +kernel))) (by decide +kernel)).elim
  · -- on
    refine And.intro (fun c11 => ?_) (fun c11 => ?_)
    · -- 21
      refine hX.1 1 _ rfl _ _ _ _ ?_
      refine And.intro (fun c12 => ?_) (fun c12 => ?_)
      · -- 41
        refine hX.1 2 _ rfl _ _ _ _ ?_
        refine k_X5_load n e f0 _ _ _ _  hI (fun y13 f14 gf14 hI15 => ?_)
        exact hX.2 _ _ [] _ _ _ mW0 (b49 _ _ _  hI15)
      · -- on
        refine k_X4_firstReceived n e f0 _ _ _   hI (fun y16 => ?_)
        exact hX.2 _ _ [] _ _ _ mW0 (b49 _ _ _  hI)
    · -- on
      exact (rg_no (show rg 1280 1279 _ from (rg_ge hx1 (rg_c (a := 1280) (b := 1280) (by decide +kernel)) (rg_nlt c11) (by decide +kernel))) (by decide +kernel)).elim
def SPX8_eeprom (S : mSp) : Prop := ∀ (n e : Int) (f0 f : mFn) (g : mGn) (K : mKr) (x1 : Int32), rg 0 255 x1 → cI n e f0 f g → (∀ (y : Int32), K (some (.inl y)) f g) → S [.inr 0, .inl x1] f g K
set_option maxRecDepth 100000 in
set_option maxHeartbeats 4000000 in
theorem sfX8_eeprom : SPX8_eeprom spX8_eeprom := by
  intro n e f0 f g K x1 hx1 hI hK
  refine ⟨rfl, fun X hX => ?_⟩
  refine hX.1 0 _ rfl _ _ _ _ ?_
  refine And.intro (fun c3 => ?_) (fun c3 => ?_)
  · -- 19
    exact (rg_no (show rg 0 (-1) _ from (rg_lt hx1 (rg_c (a := 0) (b := 0) (by decide +kernel)) c3 (by decide +kernel))) (by decide +kernel)).elim
  · -- on
    refine And.intro (fun c4 => ?_) (fun c4 => ?_)
    · -- 29
      refine hX.1 1 _ rfl _ _ _ _ ?_
      refine And.intro (rg_in hx1 (by decide +kernel)) ?_
      exact And.intro mRt_i (hK _ )
    · -- on
      exact (rg_no (show rg 256 255 _ from (rg_ge hx1 (rg_c (a := 256) (b := 256) (by decide +kernel)) (rg_nlt c4) (by decide +kernel))) (by decide +kernel)).elim
def SPX8_fuses (S : mSp) : Prop := ∀ (n e : Int) (f0 f : mFn) (g : mGn) (K : mKr) (x1 : Int32), cI n e f0 f g → (∀ (y : Int32) (f' : mFn) (g' : mGn), cI n e f0 f' g' → K (some (.inl y)) f' g') → S [.inr 0, .inl x1] f g K
set_option maxRecDepth 100000 in
set_option maxHeartbeats 4000000 in
theorem sfX8_fuses : SPX8_fuses spX8_fuses := by
  intro n e f0 f g K x1  hI hK
  refine ⟨rfl, fun X hX => ?_⟩
  refine hX.1 0 _ rfl _ _ _ _ ?_
  exact And.intro mRt_i (hK _ _ _ (cP0 (cP0 hI (by decide +kernel)) (by decide +kernel)))
def SPX8_got (S : mSp) : Prop := ∀ (n e : Int) (f0 f : mFn) (g : mGn) (K : mKr) (x1 : Int32), (¬ x1 < 0 ∧ ¬ f 325 ≤ x1 ∧ ¬ (1000 : Int32) ≤ x1) → cI n e f0 f g → (∀ (y : Int32), K (some (.inl y)) f g) → S [.inr 0, .inl x1] f g K
set_option maxRecDepth 100000 in
set_option maxHeartbeats 4000000 in
theorem sfX8_got : SPX8_got spX8_got := by
  intro n e f0 f g K x1 hE hI hK
  refine ⟨rfl, fun X hX => ?_⟩
  refine hX.1 0 _ rfl _ _ _ _ ?_
  refine And.intro (fun c8 => ?_) (fun c8 => ?_)
  · -- 31
    refine hX.1 1 _ rfl _ _ _ _ ?_
    refine hX.1 2 _ rfl _ _ _ _ ?_
    refine And.intro (fun c9 => ?_) (fun c9 => ?_)
    · -- 47
      exact (rg_no (show rg 1 0 _ from (rg_neN (rg_c (a := 0) (b := 0) (by decide +kernel)) (rg_c (a := 0) (b := 0) (by decide +kernel)) c9 (by decide +kernel))) (by decide +kernel)).elim
    · -- on
      exact absurd (show _ from c8) (hE.1)
  · -- on
    refine And.intro (fun c10 => ?_) (fun c10 => ?_)
    · -- 31
      refine hX.1 1 _ rfl _ _ _ _ ?_
      refine hX.1 2 _ rfl _ _ _ _ ?_
      refine And.intro (fun c11 => ?_) (fun c11 => ?_)
      · -- 47
        exact (rg_no (show rg 1 0 _ from (rg_neN (rg_c (a := 0) (b := 0) (by decide +kernel)) (rg_c (a := 0) (b := 0) (by decide +kernel)) c11 (by decide +kernel))) (by decide +kernel)).elim
      · -- on
        exact absurd (show _ from c10) (hE.2.1)
    · -- on
      refine And.intro (fun c12 => ?_) (fun c12 => ?_)
      · -- 31
        refine hX.1 1 _ rfl _ _ _ _ ?_
        refine hX.1 2 _ rfl _ _ _ _ ?_
        refine And.intro (fun c13 => ?_) (fun c13 => ?_)
        · -- 47
          exact (rg_no (show rg 1 0 _ from (rg_neN (rg_c (a := 0) (b := 0) (by decide +kernel)) (rg_c (a := 0) (b := 0) (by decide +kernel)) c13 (by decide +kernel))) (by decide +kernel)).elim
        · -- on
          exact absurd (show _ from c12) (hE.2.2)
      · -- on
        refine hX.1 2 _ rfl _ _ _ _ ?_
        refine And.intro (fun c14 => ?_) (fun c14 => ?_)
        · -- 47
          refine hX.1 3 _ rfl _ _ _ _ ?_
          refine And.intro (rg_in (show rg 0 999 _ from (rg_lt (show rg 0 2147483646 _ from (rg_lt (show rg 0 2147483647 _ from (rg_ge (rg_all _) (rg_c (a := 0) (b := 0) (by decide +kernel)) (rg_nlt c8) (by decide +kernel))) (gI_s hI 3 325 0 2147483647 rfl) (rg_nle c10) (by decide +kernel))) (rg_c (a := 1000) (b := 1000) (by decide +kernel)) (rg_nle c12) (by decide +kernel))) (by decide +kernel)) ?_
          exact And.intro mRt_i (hK _ )
        · -- on
          exact (rg_no (show rg 1 0 _ from (rg_eqN (rg_c (a := 1) (b := 1) (by decide +kernel)) (rg_c (a := 0) (b := 0) (by decide +kernel)) c14 (by decide +kernel))) (by decide +kernel)).elim
def SPX8_host (S : mSp) : Prop := ∀ (n e : Int) (f0 f : mFn) (g : mGn) (K : mKr) (x1 : Int32), cI n e f0 f g → (∀ (y : Int32) (f' : mFn) (g' : mGn), rg (-1) 300 y → cI n e f0 f' g' → K (some (.inl y)) f' g') → S [.inr 0, .inl x1] f g K
set_option maxRecDepth 100000 in
set_option maxHeartbeats 4000000 in
theorem sfX8_host : SPX8_host spX8_host := by
  intro n e f0 f g K x1  hI hK
  refine ⟨rfl, fun X hX => ?_⟩
  obtain ⟨S_X4_queue, k_X4_queue, hX⟩ : ∃ S_X4_queue, SPX4_queue S_X4_queue ∧ mR shC fdX8_host [(51, 0, 1, 7, S_X4_queue)] bsX8_host (fun r f g => mRt (some .int) r ∧ K r f g) X := ⟨spX4_queue, sfX4_queue, hX⟩
  refine hX.1 0 _ rfl _ _ _ _ ?_
  refine k_X4_queue n e f0 _ _ _ _ (rg_w (c := 0) (d := 255) (show rg 0 255 _ from (rg_andR (rg_c (a := 255) (b := 255) (by decide +kernel)) (by decide +kernel))) (by decide +kernel)) hI (fun y4 f5 gf5 hy4 hI6 => ?_)
  exact And.intro mRt_i (hK _ _ _ (rg_w (c := (-1)) (d := 300) hy4 (by decide +kernel)) hI6)
def SPX8_resetBy (S : mSp) : Prop := ∀ (n e : Int) (f0 f : mFn) (g : mGn) (K : mKr) (x1 : Int32), rg 1 8 x1 → cI n e f0 f g → (∀ (f' : mFn) (g' : mGn), cI n e f0 f' g' → K none f' g') → S [.inr 0, .inl x1] f g K
set_option maxRecDepth 100000 in
set_option maxHeartbeats 4000000 in
theorem sfX8_resetBy : SPX8_resetBy spX8_resetBy := by
  intro n e f0 f g K x1 hx1 hI hK
  refine ⟨rfl, fun X hX => ?_⟩
  obtain ⟨S_X5_clear, k_X5_clear, S_X1_goTo, k_X1_goTo, hX⟩ : ∃ S_X5_clear, SPX5_clear S_X5_clear ∧ ∃ S_X1_goTo, SPX1_goTo S_X1_goTo ∧ mR shC fdX8_resetBy [(228, 0, 1, 8, S_X5_clear), (128, 0, 1, 4, S_X1_goTo)] bsX8_resetBy (fun r f g => mRt none r ∧ K r f g) X := ⟨spX5_clear, sfX5_clear, spX1_goTo, sfX1_goTo, hX⟩
  have b33 : ∀ (s1 : Int32) (f : mFn) (g : mGn), rg 0 1536 s1 → cI n e f0 f g → X 33 [] [.inl s1, .inr 2] f g := by
    intro s1 f g hs1 hI
    refine hX.1 2 _ rfl _ _ _ _ ?_
    refine k_X1_goTo n e f0 _ _ _ _ (rg_w (c := 0) (d := 2047) hs1 (by decide +kernel)) hI (fun f9 gf9 hI10 => ?_)
    exact And.intro mRt_v (hK _ _ hI10)
  refine hX.1 0 _ rfl _ _ _ _ ?_
  refine k_X5_clear n e f0 _ _ _ _ (rg_w (c := 1) (d := 8) hx1 (by decide +kernel)) hI (fun f12 gf12 hI13 => ?_)
  refine And.intro (fun c14 => ?_) (fun c14 => ?_)
  · -- 32
    refine hX.1 1 _ rfl _ _ _ _ ?_
    exact hX.2 _ _ [] _ _ _ mW0 (b33 _ _ _ (rg_w (c := 0) (d := 1536) (rg_c (a := 0) (b := 0) (by decide +kernel)) (by decide +kernel)) hI13)
  · -- on
    exact hX.2 _ _ [] _ _ _ mW0 (b33 _ _ _ (rg_w (c := 0) (d := 1536) (rg_c (a := 1536) (b := 1536) (by decide +kernel)) (by decide +kernel)) hI13)
def SPX8_letPass (S : mSp) : Prop := ∀ (n e : Int) (f0 f : mFn) (g : mGn) (K : mKr) (x1 : Int32), rg 1 1200008001 x1 → cI n e f0 f g → (∀ (y : Int32) (f' : mFn) (g' : mGn), rg (-2147483648) 1200008001 y → cI n e f0 f' g' → K (some (.inl y)) f' g') → S [.inr 0, .inl x1] f g K
set_option maxRecDepth 100000 in
set_option maxHeartbeats 4000000 in
theorem sfX8_letPass : SPX8_letPass spX8_letPass := by
  intro n e f0 f g K x1 hx1 hI hK
  refine ⟨rfl, fun X hX => ?_⟩
  obtain ⟨S_X5_cycle, k_X5_cycle, S_X8_resetBy, k_X8_resetBy, hX⟩ : ∃ S_X5_cycle, SPX5_cycle S_X5_cycle ∧ ∃ S_X8_resetBy, SPX8_resetBy S_X8_resetBy ∧ mR shC fdX8_letPass [(224, 0, 0, 8, S_X5_cycle), (29, 0, 1, 11, S_X8_resetBy)] bsX8_letPass (fun r f g => mRt (some .int) r ∧ K r f g) X := ⟨spX5_cycle, sfX5_cycle, spX8_resetBy, sfX8_resetBy, hX⟩
  have r2 : ∀ (t : Nat), ∀ (a1 : Int32) (a2 : Int32) (f : mFn) (g : mGn), rg 1 1200008001 a1 → rg 1 1200008002 a2 → cI n e f0 f g → (1200008002 - Int32.toInt a2).toNat < t → X 2 [(0, .inr 0), (1, .inl a1), (2, .inl a2)] [] f g := by
    intro t
    induction t with
    | zero => intro a1 a2 f g ha1 ha2 hI hm; exact absurd hm (Nat.not_lt_zero _)
    | succ t ih =>
      intro a1 a2 f g ha1 ha2 hI hm
      refine hX.1 1 _ rfl _ _ _ _ ?_
      refine And.intro (fun c11 => ?_) (fun c11 => ?_)
      · -- 51
        refine hX.1 3 _ rfl _ _ _ _ ?_
        exact And.intro mRt_i (hK _ _ _ (rg_w (c := (-2147483648)) (d := 1200008001) ha1 (by decide +kernel)) hI)
      · -- on
        refine k_X5_cycle n e f0 _ _ _  (cP0 hI (by decide +kernel)) (fun y13 f14 gf14 hy13 hI15 => ?_)
        refine And.intro (fun c16 => ?_) (fun c16 => ?_)
        · -- 45
          refine hX.1 2 _ rfl _ _ _ _ ?_
          exact hX.2 _ _ [(0, .inr 0), (1, .inl _), (2, .inl _)] _ _ _ (mWc rfl (mWc rfl (mWc rfl mW0))) (ih _ _ _ _ (rg_w (c := 1) (d := 1200008001) ha1 (by decide +kernel)) (rg_w (c := 1) (d := 1200008002) (show rg 2 1200008002 _ from (rg_add (show rg 1 1200008001 _ from (rg_le ha2 ha1 (rg_nlt c11) (by decide +kernel))) (rg_c (a := 1) (b := 1) (by decide +kernel)) (by decide +kernel))) (by decide +kernel)) hI15 (lp_m (N := 1200008002) (rg_w (c := (-2147483648)) (d := 1200008001) (show rg 1 1200008001 _ from (rg_le ha2 ha1 (rg_nlt c11) (by decide +kernel))) (by decide +kernel)) hm))
        · -- on
          refine k_X8_resetBy n e f0 _ _ _ _ (rg_w (c := 1) (d := 8) (rg_c (a := 8) (b := 8) (by decide +kernel)) (by decide +kernel)) (cP0 hI15 (by decide +kernel)) (fun f19 gf19 hI20 => ?_)
          exact And.intro mRt_i (hK _ _ _ (rg_w (c := (-2147483648)) (d := 1200008001) (show rg 1 1200008001 _ from (rg_le ha2 ha1 (rg_nlt c11) (by decide +kernel))) (by decide +kernel)) hI20)
  have b2 : ∀ (a1 : Int32) (a2 : Int32) (f : mFn) (g : mGn), rg 1 1200008001 a1 → rg 1 1200008002 a2 → cI n e f0 f g → X 2 [(0, .inr 0), (1, .inl a1), (2, .inl a2)] [] f g := by
    intro a1 a2 f g ha1 ha2 hI
    exact r2 _ _ _ _ _ ha1 ha2 hI (Nat.lt_succ_self _)
  refine hX.1 0 _ rfl _ _ _ _ ?_
  exact hX.2 _ _ [(0, .inr 0), (1, .inl _), (2, .inl _)] _ _ _ (mWc rfl (mWc rfl (mWc rfl mW0))) (b2 _ _ _ _ (rg_w (c := 1) (d := 1200008001) hx1 (by decide +kernel)) (rg_w (c := 1) (d := 1200008002) (rg_c (a := 1) (b := 1) (by decide +kernel)) (by decide +kernel)) hI)
def SPX8_oneStep (S : mSp) : Prop := ∀ (n e : Int) (f0 f : mFn) (g : mGn) (K : mKr), n + 2 ≤ 300000000 → cI n e f0 f g → (∀ (y : Int32) (f' : mFn) (g' : mGn), rg (-2147483648) 1200008001 y → cI (n + 2) e f0 f' g' → K (some (.inl y)) f' g') → S [.inr 0] f g K
set_option maxRecDepth 100000 in
set_option maxHeartbeats 4000000 in
theorem sfX8_oneStep : SPX8_oneStep spX8_oneStep := by
  intro n e f0 f g K   hB hI hK
  refine ⟨rfl, fun X hX => ?_⟩
  obtain ⟨S_X1_waitingInterrupt, k_X1_waitingInterrupt, S_X8_letPass, k_X8_letPass, S_X1_enter, k_X1_enter, S_X1_instruction, k_X1_instruction, hX⟩ : ∃ S_X1_waitingInterrupt, SPX1_waitingInterrupt S_X1_waitingInterrupt ∧ ∃ S_X8_letPass, SPX8_letPass S_X8_letPass ∧ ∃ S_X1_enter, SPX1_enter S_X1_enter ∧ ∃ S_X1_instruction, SPX1_instruction S_X1_instruction ∧ mR shC fdX8_oneStep [(204, 0, 0, 4, S_X1_waitingInterrupt), (209, 0, 1, 11, S_X8_letPass), (215, 0, 1, 4, S_X1_enter), (218, 0, 0, 4, S_X1_instruction)] bsX8_oneStep (fun r f g => mRt (some .int) r ∧ K r f g) X := ⟨spX1_waitingInterrupt, sfX1_waitingInterrupt, spX8_letPass, sfX8_letPass, spX1_enter, sfX1_enter, spX1_instruction, sfX1_instruction, hX⟩
  have b76 : ∀ (f : mFn) (g : mGn), cI n e f0 f g → X 76 [(0, .inr 0)] [] f g := by
    intro f g  hI
    refine hX.1 2 _ rfl _ _ _ _ ?_
    refine k_X1_instruction n e f0 _ _ _   (by omega) hI (fun y25 f26 gf26 hy25 hI27 => ?_)
    refine k_X8_letPass (n + 2) e f0 _ _ _ _ (rg_w (c := 1) (d := 1200008001) (show rg 1 1200008001 _ from (rg_add hy25 (gI_s hI27 4 72 0 1200000000 rfl) (by decide +kernel))) (by decide +kernel)) hI27 (fun y28 f29 gf29 hy28 hI30 => ?_)
    exact And.intro mRt_i (hK _ _ _ (rg_w (c := (-2147483648)) (d := 1200008001) hy28 (by decide +kernel)) hI30)
  have b38 : ∀ (a1 : Int32) (f : mFn) (g : mGn), rg 0 8 a1 → cI n e f0 f g → X 38 [(0, .inr 0), (1, .inl a1)] [] f g := by
    intro a1 f g ha1 hI
    refine hX.1 1 _ rfl _ _ _ _ ?_
    refine And.intro (fun c31 => ?_) (fun c31 => ?_)
    · -- 76
      exact hX.2 _ _ [(0, .inr 0)] _ _ _ (mWc rfl mW0) (b76  _ _  hI)
    · -- on
      refine And.intro (fun c32 => ?_) (fun c32 => ?_)
      · -- 76
        exact hX.2 _ _ [(0, .inr 0)] _ _ _ (mWc rfl mW0) (b76  _ _  hI)
      · -- on
        refine k_X1_enter n e f0 _ _ _ _ (rg_w (c := 1) (d := 8) (show rg 1 8 _ from (rg_neL ha1 (rg_c (a := 0) (b := 0) (by decide +kernel)) c31 (by decide +kernel))) (by decide +kernel)) (by omega) (cP0 hI (by decide +kernel)) (fun f35 gf35 hI36 => ?_)
        refine k_X8_letPass (n + 2) e f0 _ _ _ _ (rg_w (c := 1) (d := 1200008001) (rg_c (a := 4) (b := 4) (by decide +kernel)) (by decide +kernel)) hI36 (fun y37 f38 gf38 hy37 hI39 => ?_)
        exact And.intro mRt_i (hK _ _ _ (rg_w (c := (-2147483648)) (d := 1200008001) hy37 (by decide +kernel)) hI39)
  refine hX.1 0 _ rfl _ _ _ _ ?_
  refine k_X1_waitingInterrupt n e f0 _ _ _   (cP0 hI (by decide +kernel)) (fun y41 hy41 => ?_)
  refine And.intro (fun c44 => ?_) (fun c44 => ?_)
  · -- 38
    exact hX.2 _ _ [(0, .inr 0), (1, .inl _)] _ _ _ (mWc rfl (mWc rfl mW0)) (b38 _ _ _ (rg_w (c := 0) (d := 8) hy41 (by decide +kernel)) (cP0 hI (by decide +kernel)))
  · -- on
    refine And.intro (fun c45 => ?_) (fun c45 => ?_)
    · -- 38
      exact hX.2 _ _ [(0, .inr 0), (1, .inl _)] _ _ _ (mWc rfl (mWc rfl mW0)) (b38 _ _ _ (rg_w (c := 0) (d := 8) (show rg 1 8 _ from (rg_neL hy41 (rg_c (a := 0) (b := 0) (by decide +kernel)) c45 (by decide +kernel))) (by decide +kernel)) (cP0 hI (by decide +kernel)))
    · -- on
      refine k_X8_letPass n e f0 _ _ _ _ (rg_w (c := 1) (d := 1200008001) (rg_c (a := 1) (b := 1) (by decide +kernel)) (by decide +kernel)) (cP0 hI (by decide +kernel)) (fun y46 f47 gf47 hy46 hI48 => ?_)
      exact And.intro mRt_i (hK _ _ _ (rg_w (c := (-2147483648)) (d := 1200008001) hy46 (by decide +kernel)) (cM hI48 (by omega) (by omega)))
def SPX8_pass (S : mSp) : Prop := ∀ (n e : Int) (f0 f : mFn) (g : mGn) (K : mKr) (x1 : Int32), rg 1 200000 x1 → n + 400000 ≤ 300000000 → cI n e f0 f g → (∀ (y : Int32) (f' : mFn) (g' : mGn), cI (n + 400000) e f0 f' g' → K (some (.inl y)) f' g') → S [.inr 0, .inl x1] f g K
set_option maxRecDepth 100000 in
set_option maxHeartbeats 4000000 in
theorem sfX8_pass : SPX8_pass spX8_pass := by
  intro n e f0 f g K x1 hx1 hB hI hK
  refine ⟨rfl, fun X hX => ?_⟩
  obtain ⟨S_X8_oneStep, k_X8_oneStep, hX⟩ : ∃ S_X8_oneStep, SPX8_oneStep S_X8_oneStep ∧ mR shC fdX8_pass [(33, 0, 0, 11, S_X8_oneStep)] bsX8_pass (fun r f g => mRt (some .int) r ∧ K r f g) X := ⟨spX8_oneStep, sfX8_oneStep, hX⟩
  have b57 : ∀ (a2 : Int32) (f : mFn) (g : mGn), cI (n + 400000) e f0 f g → X 57 [(2, .inl a2)] [] f g := by
    intro a2 f g  hI
    refine hX.1 4 _ rfl _ _ _ _ ?_
    exact And.intro mRt_i (hK _ _ _ hI)
  have r34 : ∀ (t : Nat), ∀ (a1 : Int32) (a2 : Int32) (a3 : Int32) (f : mFn) (g : mGn), rg 1 200000 a1 → rg 0 200000 a3 → cI (n + 2 * Int32.toInt a3) e f0 f g → (200000 - Int32.toInt a3).toNat < t → X 34 [(0, .inr 0), (1, .inl a1), (2, .inl a2), (3, .inl a3)] [] f g := by
    intro t
    induction t with
    | zero => intro a1 a2 a3 f g ha1 ha3 hI hm; exact absurd hm (Nat.not_lt_zero _)
    | succ t ih =>
      intro a1 a2 a3 f g ha1 ha3 hI hm
      refine hX.1 3 _ rfl _ _ _ _ ?_
      refine And.intro (fun c9 => ?_) (fun c9 => ?_)
      · -- 57
        exact hX.2 _ _ [(2, .inl _)] _ _ _ (mWc rfl mW0) (b57 _ _ _  (cM hI (by have := ha3.1; have := ha3.2; omega) (by omega)))
      · -- on
        refine And.intro (fun c10 => ?_) (fun c10 => ?_)
        · -- 57
          exact hX.2 _ _ [(2, .inl _)] _ _ _ (mWc rfl mW0) (b57 _ _ _  (cM hI (by have := ha3.1; have := ha3.2; omega) (by omega)))
        · -- on
          have h3 : rg 0 199999 a3 := rg_lt ha3 ha1 (rg_nle c9) (by decide +kernel)
          have h31 := h3.1
          have h32 := h3.2
          have h33 := inc1 h3 (by decide +kernel)
          refine k_X8_oneStep (n + 2 * Int32.toInt a3) e f0 _ _ _   (by omega) hI (fun y11 f12 gf12 hy11 hI13 => ?_)
          exact hX.2 _ _ [(0, .inr 0), (1, .inl _), (2, .inl _), (3, .inl _)] _ _ _ (mWc rfl (mWc rfl (mWc rfl (mWc rfl mW0)))) (ih _ _ _ _ _ (rg_w (c := 1) (d := 200000) ha1 (by decide +kernel)) (rg_w (c := 0) (d := 200000) (show rg 1 200000 _ from (rg_add (show rg 0 199999 _ from (rg_lt ha3 ha1 (rg_nle c9) (by decide +kernel))) (rg_c (a := 1) (b := 1) (by decide +kernel)) (by decide +kernel))) (by decide +kernel)) (cN hI13 (by rw [h33]; omega)) (lp_m (N := 200000) (rg_w (c := (-2147483648)) (d := 199999) (show rg 0 199999 _ from (rg_lt ha3 ha1 (rg_nle c9) (by decide +kernel))) (by decide +kernel)) hm))
  have b34 : ∀ (a1 : Int32) (a2 : Int32) (a3 : Int32) (f : mFn) (g : mGn), rg 1 200000 a1 → rg 0 200000 a3 → cI (n + 2 * Int32.toInt a3) e f0 f g → X 34 [(0, .inr 0), (1, .inl a1), (2, .inl a2), (3, .inl a3)] [] f g := by
    intro a1 a2 a3 f g ha1 ha3 hI
    exact r34 _ _ _ _ _ _ ha1 ha3 hI (Nat.lt_succ_self _)
  refine hX.1 0 _ rfl _ _ _ _ ?_
  refine And.intro (fun c14 => ?_) (fun c14 => ?_)
  · -- 11
    exact (rg_no (show rg 1 0 _ from (rg_lt hx1 (rg_c (a := 1) (b := 1) (by decide +kernel)) c14 (by decide +kernel))) (by decide +kernel)).elim
  · -- on
    refine And.intro (fun c15 => ?_) (fun c15 => ?_)
    · -- 21
      refine hX.1 1 _ rfl _ _ _ _ ?_
      refine And.intro (fun c16 => ?_) (fun c16 => ?_)
      · -- 30
        refine hX.1 2 _ rfl _ _ _ _ ?_
        exact hX.2 _ _ [(0, .inr 0), (1, .inl _), (2, .inl _), (3, .inl _)] _ _ _ (mWc rfl (mWc rfl (mWc rfl (mWc rfl mW0)))) (b34 _ _ _ _ _ (rg_w (c := 1) (d := 200000) hx1 (by decide +kernel)) (rg_w (c := 0) (d := 200000) (rg_c (a := 0) (b := 0) (by decide +kernel)) (by decide +kernel)) (cN hI (by rw [rg_z]; omega)))
      · -- on
        exact And.intro mRt_i (hK _ _ _ (cM hI (by omega) (by omega)))
    · -- on
      exact (rg_no (show rg 200001 200000 _ from (rg_gt hx1 (rg_c (a := 200000) (b := 200000) (by decide +kernel)) (rg_nle c15) (by decide +kernel))) (by decide +kernel)).elim
def SPX8_pins (S : mSp) : Prop := ∀ (n e : Int) (f0 f : mFn) (g : mGn) (K : mKr) (x1 : Int32), cI n e f0 f g → (∀ f' : mFn, cI n e (upd f0 70 (x1 &&& 255)) f' g → K (some (.inl (f0 70))) f' g) → S [.inr 0, .inl x1] f g K
set_option maxRecDepth 100000 in
theorem sfX8_pins : SPX8_pins spX8_pins := by
  intro n e f0 f g K x1 hI hK
  refine ⟨rfl, fun X hX => ?_⟩
  refine hX.1 0 _ rfl _ _ _ _ ?_
  have e1 : f 70 = f0 70 := hI.2.2.1 70 (by decide)
  have h2 := hK (upd f 70 (x1 &&& 255)) (cFr hI)
  rw [← e1] at h2
  exact And.intro mRt_i h2
def SPX8_power (S : mSp) : Prop := ∀ (n e : Int) (f0 f : mFn) (g : mGn) (K : mKr) (x1 : Int32), rg 0 1 x1 → cI n e f0 f g → (∀ (f' : mFn) (g' : mGn), cI n e (upd f0 2 x1) f' g' → K (some (.inl (f0 2))) f' g') → S [.inr 0, .inl x1] f g K
set_option maxRecDepth 100000 in
set_option maxHeartbeats 4000000 in
theorem sfX8_power : SPX8_power spX8_power := by
  intro n e f0 f g K x1 hx1 hI hK
  refine ⟨rfl, fun X hX => ?_⟩
  obtain ⟨S_X8_resetBy, k_X8_resetBy, hX⟩ : ∃ S_X8_resetBy, SPX8_resetBy S_X8_resetBy ∧ mR shC fdX8_power [(29, 0, 1, 11, S_X8_resetBy)] bsX8_power (fun r f g => mRt (some .boolean) r ∧ K r f g) X := ⟨spX8_resetBy, sfX8_resetBy, hX⟩
  have b23 : ∀ (a2 : Int32) (f : mFn) (g : mGn), a2 = f0 2 → rg 0 1 a2 → cI n e (upd f0 2 x1) f g → X 23 [(2, .inl a2)] [] f g := by
    intro a2 f g he ha2 hI
    refine hX.1 1 _ rfl _ _ _ _ ?_
    exact And.intro (mRt_z (rg_01 ha2 (by decide +kernel))) (by rw [he]; exact hK _ _ hI)
  have hE0 : f 2 = f0 2 := hI.2.2.1 2 (by decide)
  refine hX.1 0 _ rfl _ _ _ _ ?_
  refine And.intro (rg_01 hx1 (by decide +kernel)) ?_
  refine And.intro (fun c8 => ?_) (fun c8 => ?_)
  · -- 23
    exact hX.2 _ _ [(2, .inl _)] _ _ _ (mWc rfl mW0) (b23 _ _ _ hE0 (rg_w (c := 0) (d := 1) (gI_s hI 0 2 0 1 rfl) (by decide +kernel)) (cFw hI hx1))
  · -- on
    refine And.intro (fun c9 => ?_) (fun c9 => ?_)
    · -- 23
      exact hX.2 _ _ [(2, .inl _)] _ _ _ (mWc rfl mW0) (b23 _ _ _ hE0 (rg_w (c := 0) (d := 1) (show rg 1 1 _ from (rg_neL (gI_s hI 0 2 0 1 rfl) (rg_c (a := 0) (b := 0) (by decide +kernel)) c9 (by decide +kernel))) (by decide +kernel)) (cFw hI hx1))
    · -- on
      refine k_X8_resetBy n e (upd f0 2 x1) _ _ _ _ (rg_w (c := 1) (d := 8) (rg_c (a := 1) (b := 1) (by decide +kernel)) (by decide +kernel)) (cFw hI hx1) (fun f11 gf11 hI12 => ?_)
      exact hX.2 _ _ [(2, .inl _)] _ _ _ (mWc rfl mW0) (b23 _ _ _ hE0 (rg_w (c := 0) (d := 1) (gI_s hI 0 2 0 1 rfl) (by decide +kernel)) hI12)
def SPX8_put (S : mSp) : Prop := ∀ (n e : Int) (f0 f : mFn) (g : mGn) (K : mKr) (x1 x2 : Int32), vPut x1 → cI n e f0 f g → (∀ g' : mGn, cI n e f0 f g' → K none f g') → S [.inr 0, .inl x1, .inl x2] f g K
set_option maxRecDepth 100000 in
set_option maxHeartbeats 4000000 in
theorem sfX8_put : SPX8_put spX8_put := by
  intro n e f0 f g K x1 x2 hv hI hK
  refine ⟨rfl, fun X hX => ?_⟩
  obtain ⟨S_1, k_1, hX⟩ : ∃ S_1, SPX8_canBePut S_1 ∧ mR shC fdX8_put [(100, 1, 1, 0, S_1)] bsX8_put (fun r f g => mRt none r ∧ K r f g) X := ⟨spX8_canBePut, sfX8_canBePut, hX⟩
  refine hX.1 0 _ rfl _ _ _ _ ?_
  refine k_1 _ _ _ _ (fun y hy0 hy1 => ?_)
  refine And.intro (fun c => ?_) (fun c => absurd hv (hy0 c))
  refine hX.1 1 _ rfl _ _ _ _ ?_
  refine And.intro (vp_in_iff.mpr (by unfold vPut at hv; constructor <;> omega)) ?_
  exact And.intro mRt_v (hK _ (gI_a0 hI (by decide +kernel)))
def SPX8_reset (S : mSp) : Prop := ∀ (n e : Int) (f0 f : mFn) (g : mGn) (K : mKr), cI n e f0 f g → (∀ (f' : mFn) (g' : mGn), cI n e f0 f' g' → K none f' g') → S [.inr 0] f g K
set_option maxRecDepth 100000 in
set_option maxHeartbeats 4000000 in
theorem sfX8_reset : SPX8_reset spX8_reset := by
  intro n e f0 f g K   hI hK
  refine ⟨rfl, fun X hX => ?_⟩
  obtain ⟨S_X8_resetBy, k_X8_resetBy, hX⟩ : ∃ S_X8_resetBy, SPX8_resetBy S_X8_resetBy ∧ mR shC fdX8_reset [(29, 0, 1, 11, S_X8_resetBy)] bsX8_reset (fun r f g => mRt none r ∧ K r f g) X := ⟨spX8_resetBy, sfX8_resetBy, hX⟩
  have b12 : ∀ (f : mFn) (g : mGn), cI n e f0 f g → X 12 [] [] f g := by
    intro f g  hI
    refine hX.1 1 _ rfl _ _ _ _ ?_
    exact And.intro mRt_v (hK _ _ hI)
  refine hX.1 0 _ rfl _ _ _ _ ?_
  refine And.intro (fun c5 => ?_) (fun c5 => ?_)
  · -- 12
    exact hX.2 _ _ [] _ _ _ mW0 (b12  _ _  hI)
  · -- on
    refine k_X8_resetBy n e f0 _ _ _ _ (rg_w (c := 1) (d := 8) (rg_c (a := 2) (b := 2) (by decide +kernel)) (by decide +kernel)) hI (fun f7 gf7 hI8 => ?_)
    exact hX.2 _ _ [] _ _ _ mW0 (b12  _ _  hI8)
def SPX8_run (S : mSp) : Prop := ∀ (n e : Int) (f0 f : mFn) (g : mGn) (K : mKr) (x1 : Int32), rg 1 5000 x1 → n + 10000 ≤ 300000000 → cI n e f0 f g → (∀ (y : Int32) (f' : mFn) (g' : mGn), cI (n + 10000) e f0 f' g' → K (some (.inl y)) f' g') → S [.inr 0, .inl x1] f g K
set_option maxRecDepth 100000 in
set_option maxHeartbeats 4000000 in
theorem sfX8_run : SPX8_run spX8_run := by
  intro n e f0 f g K x1 hx1 hB hI hK
  refine ⟨rfl, fun X hX => ?_⟩
  obtain ⟨S_X8_oneStep, k_X8_oneStep, hX⟩ : ∃ S_X8_oneStep, SPX8_oneStep S_X8_oneStep ∧ mR shC fdX8_run [(33, 0, 0, 11, S_X8_oneStep)] bsX8_run (fun r f g => mRt (some .int) r ∧ K r f g) X := ⟨spX8_oneStep, sfX8_oneStep, hX⟩
  have r35 : ∀ (t : Nat), ∀ (a1 : Int32) (a2 : Int32) (a3 : Int32) (f : mFn) (g : mGn), rg 1 5000 a1 → rg 0 5000 a3 → cI (n + 2 * Int32.toInt a3) e f0 f g → (5000 - Int32.toInt a3).toNat < t → X 35 [(0, .inr 0), (1, .inl a1), (2, .inl a2), (3, .inl a3)] [] f g := by
    intro t
    induction t with
    | zero => intro a1 a2 a3 f g ha1 ha3 hI hm; exact absurd hm (Nat.not_lt_zero _)
    | succ t ih =>
      intro a1 a2 a3 f g ha1 ha3 hI hm
      refine hX.1 3 _ rfl _ _ _ _ ?_
      refine And.intro (fun c8 => ?_) (fun c8 => ?_)
      · -- 53
        refine hX.1 4 _ rfl _ _ _ _ ?_
        exact And.intro mRt_i (hK _ _ _ (cM hI (by have := ha3.1; have := ha3.2; omega) (by omega)))
      · -- on
        have h3 : rg 0 4999 a3 := rg_lt ha3 ha1 (rg_nle c8) (by decide +kernel)
        have h31 := h3.1
        have h32 := h3.2
        have h33 := inc1 h3 (by decide +kernel)
        refine k_X8_oneStep (n + 2 * Int32.toInt a3) e f0 _ _ _   (by omega) hI (fun y9 f10 gf10 hy9 hI11 => ?_)
        exact hX.2 _ _ [(0, .inr 0), (1, .inl _), (2, .inl _), (3, .inl _)] _ _ _ (mWc rfl (mWc rfl (mWc rfl (mWc rfl mW0)))) (ih _ _ _ _ _ (rg_w (c := 1) (d := 5000) ha1 (by decide +kernel)) (rg_w (c := 0) (d := 5000) (show rg 1 5000 _ from (rg_add (show rg 0 4999 _ from (rg_lt ha3 ha1 (rg_nle c8) (by decide +kernel))) (rg_c (a := 1) (b := 1) (by decide +kernel)) (by decide +kernel))) (by decide +kernel)) (cN hI11 (by rw [h33]; omega)) (lp_m (N := 5000) (rg_w (c := (-2147483648)) (d := 4999) (show rg 0 4999 _ from (rg_lt ha3 ha1 (rg_nle c8) (by decide +kernel))) (by decide +kernel)) hm))
  have b35 : ∀ (a1 : Int32) (a2 : Int32) (a3 : Int32) (f : mFn) (g : mGn), rg 1 5000 a1 → rg 0 5000 a3 → cI (n + 2 * Int32.toInt a3) e f0 f g → X 35 [(0, .inr 0), (1, .inl a1), (2, .inl a2), (3, .inl a3)] [] f g := by
    intro a1 a2 a3 f g ha1 ha3 hI
    exact r35 _ _ _ _ _ _ ha1 ha3 hI (Nat.lt_succ_self _)
  refine hX.1 0 _ rfl _ _ _ _ ?_
  refine And.intro (fun c12 => ?_) (fun c12 => ?_)
  · -- 12
    exact (rg_no (show rg 1 0 _ from (rg_lt hx1 (rg_c (a := 1) (b := 1) (by decide +kernel)) c12 (by decide +kernel))) (by decide +kernel)).elim
  · -- on
    refine And.intro (fun c13 => ?_) (fun c13 => ?_)
    · -- 22
      refine hX.1 1 _ rfl _ _ _ _ ?_
      refine And.intro (fun c14 => ?_) (fun c14 => ?_)
      · -- 31
        refine hX.1 2 _ rfl _ _ _ _ ?_
        exact hX.2 _ _ [(0, .inr 0), (1, .inl _), (2, .inl _), (3, .inl _)] _ _ _ (mWc rfl (mWc rfl (mWc rfl (mWc rfl mW0)))) (b35 _ _ _ _ _ (rg_w (c := 1) (d := 5000) hx1 (by decide +kernel)) (rg_w (c := 0) (d := 5000) (rg_c (a := 0) (b := 0) (by decide +kernel)) (by decide +kernel)) (cN hI (by rw [rg_z]; omega)))
      · -- on
        exact And.intro mRt_i (hK _ _ _ (cM hI (by omega) (by omega)))
    · -- on
      exact (rg_no (show rg 5001 5000 _ from (rg_gt hx1 (rg_c (a := 5000) (b := 5000) (by decide +kernel)) (rg_nle c13) (by decide +kernel))) (by decide +kernel)).elim
def SPX8_sent (S : mSp) : Prop := ∀ (n e : Int) (f0 f : mFn) (g : mGn) (K : mKr), cI n e f0 f g → (∀ (y : Int32), rg 0 2147483647 y → K (some (.inl y)) f g) → S [.inr 0] f g K
set_option maxRecDepth 100000 in
set_option maxHeartbeats 4000000 in
theorem sfX8_sent : SPX8_sent spX8_sent := by
  intro n e f0 f g K   hI hK
  refine ⟨rfl, fun X hX => ?_⟩
  refine hX.1 0 _ rfl _ _ _ _ ?_
  exact And.intro mRt_i (hK _ (rg_w (c := 0) (d := 2147483647) (gI_s hI 3 325 0 2147483647 rfl) (by decide +kernel)) )
def SPX8_start (S : mSp) : Prop := ∀ (n e : Int) (f0 f : mFn) (g : mGn) (K : mKr) (x1 : Int32), rg 0 2047 x1 → cI n e f0 f g → (∀ (f' : mFn) (g' : mGn), cI n e f0 f' g' → K none f' g') → S [.inr 0, .inl x1] f g K
set_option maxRecDepth 100000 in
set_option maxHeartbeats 4000000 in
theorem sfX8_start : SPX8_start spX8_start := by
  intro n e f0 f g K x1 hx1 hI hK
  refine ⟨rfl, fun X hX => ?_⟩
  obtain ⟨S_X8_inFlash, k_X8_inFlash, S_X1_goTo, k_X1_goTo, hX⟩ : ∃ S_X8_inFlash, SPX8_inFlash S_X8_inFlash ∧ ∃ S_X1_goTo, SPX1_goTo S_X1_goTo ∧ mR shC fdX8_start [(70, 1, 1, 0, S_X8_inFlash), (128, 0, 1, 4, S_X1_goTo)] bsX8_start (fun r f g => mRt none r ∧ K r f g) X := ⟨spX8_inFlash, sfX8_inFlash, spX1_goTo, sfX1_goTo, hX⟩
  refine hX.1 0 _ rfl _ _ _ _ ?_
  refine k_X8_inFlash n e f0 _ _ _ _ (rg_w (c := 0) (d := 2047) hx1 (by decide +kernel)) hI (fun y8 hy8 => ?_)
  refine And.intro (fun c11 => ?_) (fun c11 => ?_)
  · -- 17
    refine hX.1 1 _ rfl _ _ _ _ ?_
    refine k_X1_goTo n e f0 _ _ _ _ (rg_w (c := 0) (d := 2047) hx1 (by decide +kernel)) hI (fun f13 gf13 hI14 => ?_)
    exact And.intro mRt_v (hK _ _ hI14)
  · -- on
    exact (rg_no (show rg 1 0 _ from (rg_eqN hy8 (rg_c (a := 0) (b := 0) (by decide +kernel)) c11 (by decide +kernel))) (by decide +kernel)).elim
def SPX8_step (S : mSp) : Prop := ∀ (n e : Int) (f0 f : mFn) (g : mGn) (K : mKr), n + 2 ≤ 300000000 → cI n e f0 f g → (∀ (y : Int32) (f' : mFn) (g' : mGn), rg (-2147483648) 1200008001 y → cI (n + 2) e f0 f' g' → K (some (.inl y)) f' g') → S [.inr 0] f g K
set_option maxRecDepth 100000 in
set_option maxHeartbeats 4000000 in
theorem sfX8_step : SPX8_step spX8_step := by
  intro n e f0 f g K   hB hI hK
  refine ⟨rfl, fun X hX => ?_⟩
  obtain ⟨S_X8_oneStep, k_X8_oneStep, hX⟩ : ∃ S_X8_oneStep, SPX8_oneStep S_X8_oneStep ∧ mR shC fdX8_step [(33, 0, 0, 11, S_X8_oneStep)] bsX8_step (fun r f g => mRt (some .int) r ∧ K r f g) X := ⟨spX8_oneStep, sfX8_oneStep, hX⟩
  have b15 : ∀ (s0 : Int32) (f : mFn) (g : mGn), rg (-2147483648) 1200008001 s0 → cI (n + 2) e f0 f g → X 15 [] [.inl s0] f g := by
    intro s0 f g hs0 hI
    refine hX.1 2 _ rfl _ _ _ _ ?_
    exact And.intro mRt_i (hK _ _ _ (rg_w (c := (-2147483648)) (d := 1200008001) hs0 (by decide +kernel)) hI)
  refine hX.1 0 _ rfl _ _ _ _ ?_
  refine And.intro (fun c5 => ?_) (fun c5 => ?_)
  · -- 14
    refine hX.1 1 _ rfl _ _ _ _ ?_
    exact hX.2 _ _ [] _ _ _ mW0 (b15 _ _ _ (rg_w (c := (-2147483648)) (d := 1200008001) (rg_c (a := 0) (b := 0) (by decide +kernel)) (by decide +kernel)) (cM hI (by omega) (by omega)))
  · -- on
    refine k_X8_oneStep n e f0 _ _ _   (by omega) hI (fun y6 f7 gf7 hy6 hI8 => ?_)
    exact hX.2 _ _ [] _ _ _ mW0 (b15 _ _ _ (rg_w (c := (-2147483648)) (d := 1200008001) hy6 (by decide +kernel)) hI8)
def SPX8_word (S : mSp) : Prop := ∀ (n e : Int) (f0 f : mFn) (g : mGn) (K : mKr) (x1 : Int32), rg 0 2047 x1 → cI n e f0 f g → (∀ (y : Int32), K (some (.inl y)) f g) → S [.inr 0, .inl x1] f g K
set_option maxRecDepth 100000 in
set_option maxHeartbeats 4000000 in
theorem sfX8_word : SPX8_word spX8_word := by
  intro n e f0 f g K x1 hx1 hI hK
  refine ⟨rfl, fun X hX => ?_⟩
  obtain ⟨S_X8_inFlash, k_X8_inFlash, hX⟩ : ∃ S_X8_inFlash, SPX8_inFlash S_X8_inFlash ∧ mR shC fdX8_word [(70, 1, 1, 0, S_X8_inFlash)] bsX8_word (fun r f g => mRt (some .int) r ∧ K r f g) X := ⟨spX8_inFlash, sfX8_inFlash, hX⟩
  refine hX.1 0 _ rfl _ _ _ _ ?_
  refine k_X8_inFlash n e f0 _ _ _ _ (rg_w (c := 0) (d := 2047) hx1 (by decide +kernel)) hI (fun y5 hy5 => ?_)
  refine And.intro (fun c8 => ?_) (fun c8 => ?_)
  · -- 17
    refine hX.1 1 _ rfl _ _ _ _ ?_
    refine And.intro (rg_in hx1 (by decide +kernel)) ?_
    exact And.intro mRt_i (hK _ )
  · -- on
    exact (rg_no (show rg 1 0 _ from (rg_eqN hy5 (rg_c (a := 0) (b := 0) (by decide +kernel)) c8 (by decide +kernel))) (by decide +kernel)).elim
def SQX9_right (S : mSp) : Prop := ∀ (n e : Int) (f0 f : mFn) (g : mGn) (K : mKr) (x1 : Int32), rg 0 1 x1 → rI n e f0 f g → (∀ f' : mFn, (x1 = 0 → f' 0 = 1) → (¬ x1 = 0 → f' 0 = 0) → rI n e f0 f' g → K (some (.inl x1)) f' g) → S [.inr 0, .inl x1] f g K
set_option maxRecDepth 100000 in
set_option maxHeartbeats 4000000 in
theorem sqX9_right : SQX9_right spX9_right := by
  intro n e f0 f g K x1 hx1 hI hK
  refine ⟨rfl, fun X hX => ?_⟩
  have b10 : ∀ (s0 : Int32), rg 0 1 s0 → (x1 = 0 → s0 = 1) → (¬ x1 = 0 → s0 = 0) → X 10 [(1, .inl x1)] [.inl s0, .inr 0] f g := by
    intro s0 hs0 h1 h2
    refine hX.1 2 _ rfl _ _ _ _ ?_
    have eu : ∀ v : Int32, upd f 0 v 0 = v := fun v => by simp [upd]
    exact And.intro (mRt_z (rg_01 hx1 (by decide +kernel))) (hK _ (fun h => (eu _).trans (h1 h)) (fun h => (eu _).trans (h2 h)) (rP1 0 hs0 hI (by decide +kernel)))
  refine hX.1 0 _ rfl _ _ _ _ ?_
  refine And.intro (fun c => ?_) (fun c => ?_)
  · refine hX.1 1 _ rfl _ _ _ _ ?_
    exact hX.2 _ _ [(1, .inl _)] _ _ _ (mWc rfl mW0) (b10 _ (rg_c (a := 0) (b := 1) (by decide +kernel)) (fun _ => rfl) (fun h => absurd c h))
  · exact hX.2 _ _ [(1, .inl _)] _ _ _ (mWc rfl mW0) (b10 _ (rg_c (a := 0) (b := 1) (by decide +kernel)) (fun h => absurd h c) (fun _ => rfl))
def SPX9_right (S : mSp) : Prop := ∀ (n e : Int) (f0 f : mFn) (g : mGn) (K : mKr) (x1 : Int32), rg 0 1 x1 → rI n e f0 f g → (∀ (f' : mFn) (g' : mGn), rI n e f0 f' g' → K (some (.inl x1)) f' g') → S [.inr 0, .inl x1] f g K
theorem sfX9_right : SPX9_right spX9_right :=
  fun n e f0 f g K x1 hx1 hI hK => sqX9_right n e f0 f g K x1 hx1 hI (fun f' _ _ h => hK f' g h)
def SPX9_pointer (S : mSp) : Prop := ∀ (n e : Int) (f0 f : mFn) (g : mGn) (K : mKr) (x1 : Int32), rg 0 93 x1 → rI n e f0 f g → (∀ (y : Int32), rg 0 65535 y → K (some (.inl y)) f g) → S [.inr 0, .inl x1] f g K
set_option maxRecDepth 100000 in
set_option maxHeartbeats 4000000 in
theorem sfX9_pointer : SPX9_pointer spX9_pointer := by
  intro n e f0 f g K x1 hx1 hI hK
  refine ⟨rfl, fun X hX => ?_⟩
  refine hX.1 0 _ rfl _ _ _ _ ?_
  refine And.intro (rg_in hx1 (by decide +kernel)) ?_
  refine And.intro (rg_in (show rg 1 94 _ from (rg_add hx1 (rg_c (a := 1) (b := 1) (by decide +kernel)) (by decide +kernel))) (by decide +kernel)) ?_
  exact And.intro mRt_i (hK _ (rg_w (c := 0) (d := 65535) (show rg 0 65535 _ from (rg_or (k := 16) (gI_g hI 2 3 1280 0 255 rfl (rg_in hx1 (by decide +kernel))) (show rg 0 65280 _ from (rg_shlK 8 (gI_g hI 2 3 1280 0 255 rfl (rg_in (show rg 1 94 _ from (rg_add hx1 (rg_c (a := 1) (b := 1) (by decide +kernel)) (by decide +kernel))) (by decide +kernel))) (by decide +kernel) (by decide +kernel))) (by decide +kernel))) (by decide +kernel)) )
def SPX9_flag (S : mSp) : Prop := ∀ (n e : Int) (f0 f : mFn) (g : mGn) (K : mKr) (x1 : Int32), rg 0 7 x1 → rI n e f0 f g → (∀ (y : Int32), rg 0 1 y → K (some (.inl y)) f g) → S [.inr 0, .inl x1] f g K
set_option maxRecDepth 100000 in
set_option maxHeartbeats 4000000 in
theorem sfX9_flag : SPX9_flag spX9_flag := by
  intro n e f0 f g K x1 hx1 hI hK
  refine ⟨rfl, fun X hX => ?_⟩
  have b20 : ∀ (s0 : Int32), rg 0 1 s0 → X 20 [] [.inl s0] f g := by
    intro s0 hs0
    refine hX.1 2 _ rfl _ _ _ _ ?_
    exact And.intro (mRt_z (rg_01 hs0 (by decide +kernel))) (hK _ (rg_w (c := 0) (d := 1) hs0 (by decide +kernel)) )
  refine hX.1 0 _ rfl _ _ _ _ ?_
  refine And.intro (rg_in (rg_c (a := 95) (b := 95) (by decide +kernel)) (by decide +kernel)) ?_
  refine And.intro (fun c2 => ?_) (fun c2 => ?_)
  · -- 19
    refine hX.1 1 _ rfl _ _ _ _ ?_
    exact hX.2 _ _ [] _ _ _ mW0 (b20 _ (rg_w (c := 0) (d := 1) (rg_c (a := 0) (b := 0) (by decide +kernel)) (by decide +kernel)))
  · -- on
    exact hX.2 _ _ [] _ _ _ mW0 (b20 _ (rg_w (c := 0) (d := 1) (rg_c (a := 1) (b := 1) (by decide +kernel)) (by decide +kernel)))
def SPX9_interrupt (S : mSp) : Prop := ∀ (n e : Int) (f0 f : mFn) (g : mGn) (K : mKr), rI n e f0 f g → (∀ (y : Int32), rg 0 8 y → K (some (.inl y)) f g) → S [.inr 0] f g K
set_option maxRecDepth 100000 in
set_option maxHeartbeats 4000000 in
theorem sfX9_interrupt : SPX9_interrupt spX9_interrupt := by
  intro n e f0 f g K   hI hK
  refine ⟨rfl, fun X hX => ?_⟩
  have b141 : ∀ (s0 : Int32), rg 0 8 s0 → X 141 [] [.inl s0] f g := by
    intro s0 hs0
    refine hX.1 9 _ rfl _ _ _ _ ?_
    exact And.intro mRt_i (hK _ (rg_w (c := 0) (d := 8) hs0 (by decide +kernel)) )
  refine hX.1 0 _ rfl _ _ _ _ ?_
  refine And.intro (rg_in (rg_c (a := 96) (b := 96) (by decide +kernel)) (by decide +kernel)) ?_
  refine And.intro (rg_in (rg_c (a := 53) (b := 53) (by decide +kernel)) (by decide +kernel)) ?_
  refine And.intro (rg_in (rg_c (a := 110) (b := 110) (by decide +kernel)) (by decide +kernel)) ?_
  refine And.intro (rg_in (rg_c (a := 192) (b := 192) (by decide +kernel)) (by decide +kernel)) ?_
  refine And.intro (rg_in (rg_c (a := 193) (b := 193) (by decide +kernel)) (by decide +kernel)) ?_
  refine And.intro (fun c9 => ?_) (fun c9 => ?_)
  · -- 55
    refine hX.1 1 _ rfl _ _ _ _ ?_
    refine And.intro (fun c10 => ?_) (fun c10 => ?_)
    · -- 63
      refine hX.1 2 _ rfl _ _ _ _ ?_
      refine And.intro (fun c11 => ?_) (fun c11 => ?_)
      · -- 71
        refine hX.1 3 _ rfl _ _ _ _ ?_
        refine And.intro (fun c12 => ?_) (fun c12 => ?_)
        · -- 81
          refine hX.1 4 _ rfl _ _ _ _ ?_
          refine And.intro (fun c13 => ?_) (fun c13 => ?_)
          · -- 90
            refine hX.1 5 _ rfl _ _ _ _ ?_
            refine And.intro (fun c14 => ?_) (fun c14 => ?_)
            · -- 100
              refine hX.1 6 _ rfl _ _ _ _ ?_
              refine And.intro (rg_in (rg_c (a := 63) (b := 63) (by decide +kernel)) (by decide +kernel)) ?_
              refine And.intro (fun c15 => ?_) (fun c15 => ?_)
              · -- 118
                refine hX.1 7 _ rfl _ _ _ _ ?_
                refine And.intro (rg_in (rg_c (a := 87) (b := 87) (by decide +kernel)) (by decide +kernel)) ?_
                refine And.intro (fun c16 => ?_) (fun c16 => ?_)
                · -- 140
                  refine hX.1 8 _ rfl _ _ _ _ ?_
                  exact hX.2 _ _ [] _ _ _ mW0 (b141 _ (rg_w (c := 0) (d := 8) (rg_c (a := 0) (b := 0) (by decide +kernel)) (by decide +kernel)))
                · -- on
                  exact hX.2 _ _ [] _ _ _ mW0 (b141 _ (rg_w (c := 0) (d := 8) (rg_c (a := 8) (b := 8) (by decide +kernel)) (by decide +kernel)))
              · -- on
                exact And.intro mRt_i (hK _ (rg_w (c := 0) (d := 8) (rg_c (a := 7) (b := 7) (by decide +kernel)) (by decide +kernel)) )
            · -- on
              exact And.intro mRt_i (hK _ (rg_w (c := 0) (d := 8) (rg_c (a := 6) (b := 6) (by decide +kernel)) (by decide +kernel)) )
          · -- on
            exact And.intro mRt_i (hK _ (rg_w (c := 0) (d := 8) (rg_c (a := 5) (b := 5) (by decide +kernel)) (by decide +kernel)) )
        · -- on
          exact And.intro mRt_i (hK _ (rg_w (c := 0) (d := 8) (rg_c (a := 4) (b := 4) (by decide +kernel)) (by decide +kernel)) )
      · -- on
        exact And.intro mRt_i (hK _ (rg_w (c := 0) (d := 8) (rg_c (a := 3) (b := 3) (by decide +kernel)) (by decide +kernel)) )
    · -- on
      exact And.intro mRt_i (hK _ (rg_w (c := 0) (d := 8) (rg_c (a := 2) (b := 2) (by decide +kernel)) (by decide +kernel)) )
  · -- on
    exact And.intro mRt_i (hK _ (rg_w (c := 0) (d := 8) (rg_c (a := 1) (b := 1) (by decide +kernel)) (by decide +kernel)) )
def SPX9_awaited (S : mSp) : Prop := ∀ (n e : Int) (f0 f : mFn) (g : mGn) (K : mKr), rI n e f0 f g → (∀ (y : Int32), rg 0 8 y → K (some (.inl y)) f g) → S [.inr 0] f g K
set_option maxRecDepth 100000 in
set_option maxHeartbeats 4000000 in
theorem sfX9_awaited : SPX9_awaited spX9_awaited := by
  intro n e f0 f g K   hI hK
  refine ⟨rfl, fun X hX => ?_⟩
  obtain ⟨S_X9_flag, k_X9_flag, S_X9_interrupt, k_X9_interrupt, hX⟩ : ∃ S_X9_flag, SPX9_flag S_X9_flag ∧ ∃ S_X9_interrupt, SPX9_interrupt S_X9_interrupt ∧ mR shM fdX9_awaited [(163, 0, 1, 12, S_X9_flag), (166, 0, 0, 12, S_X9_interrupt)] bsX9_awaited (fun r f g => mRt (some .int) r ∧ K r f g) X := ⟨spX9_flag, sfX9_flag, spX9_interrupt, sfX9_interrupt, hX⟩
  have b17 : ∀ (s0 : Int32), rg 0 8 s0 → X 17 [] [.inl s0] f g := by
    intro s0 hs0
    refine hX.1 2 _ rfl _ _ _ _ ?_
    exact And.intro mRt_i (hK _ (rg_w (c := 0) (d := 8) hs0 (by decide +kernel)) )
  refine hX.1 0 _ rfl _ _ _ _ ?_
  refine k_X9_flag n e f0 _ _ _ _ (rg_w (c := 0) (d := 7) (rg_c (a := 7) (b := 7) (by decide +kernel)) (by decide +kernel)) hI (fun y8 hy8 => ?_)
  refine And.intro (fun c11 => ?_) (fun c11 => ?_)
  · -- 16
    refine hX.1 1 _ rfl _ _ _ _ ?_
    exact hX.2 _ _ [] _ _ _ mW0 (b17 _ (rg_w (c := 0) (d := 8) (rg_c (a := 0) (b := 0) (by decide +kernel)) (by decide +kernel)))
  · -- on
    refine k_X9_interrupt n e f0 _ _ _   hI (fun y12 hy12 => ?_)
    exact hX.2 _ _ [] _ _ _ mW0 (b17 _ (rg_w (c := 0) (d := 8) hy12 (by decide +kernel)))
def SPX9_about (S : mSp) : Prop := ∀ (n e : Int) (f0 f : mFn) (g : mGn) (K : mKr) (x1 : Int32), rI n e f0 f g → (∀ (y : Int32) (f' : mFn) (g' : mGn), rI n e f0 f' g' → K (some (.inl y)) f' g') → S [.inr 0, .inl x1] f g K
set_option maxRecDepth 100000 in
set_option maxHeartbeats 4000000 in
theorem sfX9_about : SPX9_about spX9_about := by
  intro n e f0 f g K x1  hI hK
  refine ⟨rfl, fun X hX => ?_⟩
  obtain ⟨S_X9_right, k_X9_right, S_X9_pointer, k_X9_pointer, S_X9_awaited, k_X9_awaited, hX⟩ : ∃ S_X9_right, SPX9_right S_X9_right ∧ ∃ S_X9_pointer, SPX9_pointer S_X9_pointer ∧ ∃ S_X9_awaited, SPX9_awaited S_X9_awaited ∧ mR shM fdX9_about [(359, 0, 1, 12, S_X9_right), (231, 0, 1, 12, S_X9_pointer), (216, 0, 0, 12, S_X9_awaited)] bsX9_about (fun r f g => mRt (some .int) r ∧ K r f g) X := ⟨spX9_right, sfX9_right, spX9_pointer, sfX9_pointer, spX9_awaited, sfX9_awaited, hX⟩
  have b148 : ∀ (s0 : Int32) (f : mFn) (g : mGn), rg 0 1 s0 → rI n e f0 f g → X 148 [] [.inl s0] f g := by
    intro s0 f g hs0 hI
    refine hX.1 8 _ rfl _ _ _ _ ?_
    exact And.intro mRt_i (hK _ _ _ hI)
  have r178 : ∀ (t : Nat), ∀ (a2 : Int32) (a3 : Int32) (f : mFn) (g : mGn), rg 0 32 a3 → rI n e f0 f g → (32 - Int32.toInt a3).toNat < t → X 178 [(0, .inr 0), (2, .inl a2), (3, .inl a3)] [] f g := by
    intro t
    induction t with
    | zero => intro a2 a3 f g ha3 hI hm; exact absurd hm (Nat.not_lt_zero _)
    | succ t ih =>
      have b199 : ∀ (a3 : Int32) (s0 : Int32) (s1 : Int32) (f : mFn) (g : mGn), rg 0 31 a3 → rg 0 1 s1 → rI n e f0 f g → (32 - Int32.toInt a3).toNat < t + 1 → X 199 [(0, .inr 0), (3, .inl a3)] [.inl s1, .inl s0] f g := by
        intro a3 s0 s1 f g ha3 hs1 hI hm
        refine hX.1 17 _ rfl _ _ _ _ ?_
        exact hX.2 _ _ [(0, .inr 0), (2, .inl _), (3, .inl _)] _ _ _ (mWc rfl (mWc rfl (mWc rfl mW0))) (ih _ _ _ _ (rg_w (c := 0) (d := 32) (show rg 1 32 _ from (rg_add ha3 (rg_c (a := 1) (b := 1) (by decide +kernel)) (by decide +kernel))) (by decide +kernel)) hI (lp_m (N := 32) (rg_w (c := (-2147483648)) (d := 31) ha3 (by decide +kernel)) hm))
      intro a2 a3 f g ha3 hI hm
      refine hX.1 15 _ rfl _ _ _ _ ?_
      refine And.intro (fun c38 => ?_) (fun c38 => ?_)
      · -- 207
        refine hX.1 18 _ rfl _ _ _ _ ?_
        exact And.intro mRt_i (hK _ _ _ hI)
      · -- on
        refine And.intro (rg_in (show rg 0 31 _ from (rg_lt ha3 (rg_c (a := 32) (b := 32) (by decide +kernel)) (rg_nle c38) (by decide +kernel))) (by decide +kernel)) ?_
        refine And.intro (fun c39 => ?_) (fun c39 => ?_)
        · -- 198
          refine hX.1 16 _ rfl _ _ _ _ ?_
          exact hX.2 _ _ [(0, .inr 0), (3, .inl _)] _ _ _ (mWc rfl (mWc rfl mW0)) (b199 _ _ _ _ _ (rg_w (c := 0) (d := 31) (show rg 0 31 _ from (rg_lt ha3 (rg_c (a := 32) (b := 32) (by decide +kernel)) (rg_nle c38) (by decide +kernel))) (by decide +kernel)) (rg_w (c := 0) (d := 1) (rg_c (a := 0) (b := 0) (by decide +kernel)) (by decide +kernel)) hI hm)
        · -- on
          exact hX.2 _ _ [(0, .inr 0), (3, .inl _)] _ _ _ (mWc rfl (mWc rfl mW0)) (b199 _ _ _ _ _ (rg_w (c := 0) (d := 31) (show rg 0 31 _ from (rg_lt ha3 (rg_c (a := 32) (b := 32) (by decide +kernel)) (rg_nle c38) (by decide +kernel))) (by decide +kernel)) (rg_w (c := 0) (d := 1) (rg_c (a := 1) (b := 1) (by decide +kernel)) (by decide +kernel)) hI hm)
  have b178 : ∀ (a2 : Int32) (a3 : Int32) (f : mFn) (g : mGn), rg 0 32 a3 → rI n e f0 f g → X 178 [(0, .inr 0), (2, .inl a2), (3, .inl a3)] [] f g := by
    intro a2 a3 f g ha3 hI
    exact r178 _ _ _ _ _ ha3 hI (Nat.lt_succ_self _)
  have b276 : ∀ (s0 : Int32) (f : mFn) (g : mGn), rg 0 1 s0 → rI n e f0 f g → X 276 [] [.inl s0] f g := by
    intro s0 f g hs0 hI
    refine hX.1 32 _ rfl _ _ _ _ ?_
    exact And.intro mRt_i (hK _ _ _ hI)
  have b16 : ∀ (a1 : Int32) (s1 : Int32) (f : mFn) (g : mGn), rg 0 1 s1 → rI n e f0 f g → X 16 [(0, .inr 0), (1, .inl a1)] [.inl s1, .inr 0] f g := by
    intro a1 s1 f g hs1 hI
    refine hX.1 2 _ rfl _ _ _ _ ?_
    refine k_X9_right n e f0 _ _ _ _ (rg_w (c := 0) (d := 1) hs1 (by decide +kernel)) hI (fun f41 gf41 hI42 => ?_)
    refine And.intro (fun c43 => ?_) (fun c43 => ?_)
    · -- 24
      refine hX.1 3 _ rfl _ _ _ _ ?_
      refine And.intro (fun c44 => ?_) (fun c44 => ?_)
      · -- 124
        refine hX.1 4 _ rfl _ _ _ _ ?_
        exact And.intro mRt_i (hK _ _ _ hI42)
      · -- on
        refine And.intro (fun c45 => ?_) (fun c45 => ?_)
        · -- 129
          refine hX.1 5 _ rfl _ _ _ _ ?_
          refine k_X9_pointer n e f0 _ _ _ _ (rg_w (c := 0) (d := 93) (rg_c (a := 93) (b := 93) (by decide +kernel)) (by decide +kernel)) hI42 (fun y46 hy46 => ?_)
          exact And.intro mRt_i (hK _ _ _ hI42)
        · -- on
          refine And.intro (fun c49 => ?_) (fun c49 => ?_)
          · -- 136
            refine hX.1 6 _ rfl _ _ _ _ ?_
            refine And.intro (fun c50 => ?_) (fun c50 => ?_)
            · -- 147
              refine hX.1 7 _ rfl _ _ _ _ ?_
              exact hX.2 _ _ [] _ _ _ mW0 (b148 _ _ _ (rg_w (c := 0) (d := 1) (rg_c (a := 0) (b := 0) (by decide +kernel)) (by decide +kernel)) hI42)
            · -- on
              exact hX.2 _ _ [] _ _ _ mW0 (b148 _ _ _ (rg_w (c := 0) (d := 1) (rg_c (a := 1) (b := 1) (by decide +kernel)) (by decide +kernel)) hI42)
          · -- on
            refine And.intro (fun c51 => ?_) (fun c51 => ?_)
            · -- 149
              refine hX.1 9 _ rfl _ _ _ _ ?_
              exact And.intro mRt_i (hK _ _ _ hI42)
            · -- on
              refine And.intro (fun c52 => ?_) (fun c52 => ?_)
              · -- 154
                refine hX.1 10 _ rfl _ _ _ _ ?_
                exact And.intro mRt_i (hK _ _ _ hI42)
              · -- on
                refine And.intro (fun c53 => ?_) (fun c53 => ?_)
                · -- 159
                  refine hX.1 11 _ rfl _ _ _ _ ?_
                  exact And.intro mRt_i (hK _ _ _ hI42)
                · -- on
                  refine And.intro (fun c54 => ?_) (fun c54 => ?_)
                  · -- 164
                    refine hX.1 12 _ rfl _ _ _ _ ?_
                    exact And.intro mRt_i (hK _ _ _ hI42)
                  · -- on
                    refine And.intro (fun c55 => ?_) (fun c55 => ?_)
                    · -- 169
                      refine hX.1 13 _ rfl _ _ _ _ ?_
                      exact And.intro mRt_i (hK _ _ _ hI42)
                    · -- on
                      refine And.intro (fun c56 => ?_) (fun c56 => ?_)
                      · -- 174
                        refine hX.1 14 _ rfl _ _ _ _ ?_
                        exact hX.2 _ _ [(0, .inr 0), (2, .inl _), (3, .inl _)] _ _ _ (mWc rfl (mWc rfl (mWc rfl mW0))) (b178 _ _ _ _ (rg_w (c := 0) (d := 32) (rg_c (a := 0) (b := 0) (by decide +kernel)) (by decide +kernel)) hI42)
                      · -- on
                        refine And.intro (fun c57 => ?_) (fun c57 => ?_)
                        · -- 209
                          refine hX.1 19 _ rfl _ _ _ _ ?_
                          exact And.intro mRt_i (hK _ _ _ hI42)
                        · -- on
                          refine And.intro (fun c58 => ?_) (fun c58 => ?_)
                          · -- 214
                            refine hX.1 20 _ rfl _ _ _ _ ?_
                            exact And.intro mRt_i (hK _ _ _ hI42)
                          · -- on
                            refine And.intro (fun c59 => ?_) (fun c59 => ?_)
                            · -- 219
                              refine hX.1 21 _ rfl _ _ _ _ ?_
                              exact And.intro mRt_i (hK _ _ _ hI42)
                            · -- on
                              refine And.intro (fun c60 => ?_) (fun c60 => ?_)
                              · -- 224
                                refine hX.1 22 _ rfl _ _ _ _ ?_
                                exact And.intro mRt_i (hK _ _ _ hI42)
                              · -- on
                                refine And.intro (fun c61 => ?_) (fun c61 => ?_)
                                · -- 229
                                  refine hX.1 23 _ rfl _ _ _ _ ?_
                                  exact And.intro mRt_i (hK _ _ _ hI42)
                                · -- on
                                  refine And.intro (fun c62 => ?_) (fun c62 => ?_)
                                  · -- 234
                                    refine hX.1 24 _ rfl _ _ _ _ ?_
                                    exact And.intro mRt_i (hK _ _ _ hI42)
                                  · -- on
                                    refine And.intro (fun c63 => ?_) (fun c63 => ?_)
                                    · -- 239
                                      refine hX.1 25 _ rfl _ _ _ _ ?_
                                      exact And.intro mRt_i (hK _ _ _ hI42)
                                    · -- on
                                      refine And.intro (fun c64 => ?_) (fun c64 => ?_)
                                      · -- 244
                                        refine hX.1 26 _ rfl _ _ _ _ ?_
                                        exact And.intro mRt_i (hK _ _ _ hI42)
                                      · -- on
                                        refine And.intro (fun c65 => ?_) (fun c65 => ?_)
                                        · -- 249
                                          refine hX.1 27 _ rfl _ _ _ _ ?_
                                          exact And.intro mRt_i (hK _ _ _ hI42)
                                        · -- on
                                          refine And.intro (fun c66 => ?_) (fun c66 => ?_)
                                          · -- 254
                                            refine hX.1 28 _ rfl _ _ _ _ ?_
                                            exact And.intro mRt_i (hK _ _ _ hI42)
                                          · -- on
                                            refine And.intro (fun c67 => ?_) (fun c67 => ?_)
                                            · -- 259
                                              refine hX.1 29 _ rfl _ _ _ _ ?_
                                              exact And.intro mRt_i (hK _ _ _ hI42)
                                            · -- on
                                              refine And.intro (fun c68 => ?_) (fun c68 => ?_)
                                              · -- 264
                                                refine hX.1 30 _ rfl _ _ _ _ ?_
                                                refine And.intro (fun c69 => ?_) (fun c69 => ?_)
                                                · -- 275
                                                  refine hX.1 31 _ rfl _ _ _ _ ?_
                                                  exact hX.2 _ _ [] _ _ _ mW0 (b276 _ _ _ (rg_w (c := 0) (d := 1) (rg_c (a := 0) (b := 0) (by decide +kernel)) (by decide +kernel)) hI42)
                                                · -- on
                                                  exact hX.2 _ _ [] _ _ _ mW0 (b276 _ _ _ (rg_w (c := 0) (d := 1) (rg_c (a := 1) (b := 1) (by decide +kernel)) (by decide +kernel)) hI42)
                                              · -- on
                                                refine hX.1 33 _ rfl _ _ _ _ ?_
                                                refine k_X9_awaited n e f0 _ _ _   hI42 (fun y70 hy70 => ?_)
                                                exact And.intro mRt_i (hK _ _ _ hI42)
    · -- on
      exact And.intro mRt_i (hK _ _ _ hI42)
  have b15 : ∀ (a1 : Int32) (f : mFn) (g : mGn), rI n e f0 f g → X 15 [(0, .inr 0), (1, .inl a1)] [.inr 0] f g := by
    intro a1 f g  hI
    refine hX.1 1 _ rfl _ _ _ _ ?_
    exact hX.2 _ _ [(0, .inr 0), (1, .inl _)] _ _ _ (mWc rfl (mWc rfl mW0)) (b16 _ _ _ _ (rg_w (c := 0) (d := 1) (rg_c (a := 0) (b := 0) (by decide +kernel)) (by decide +kernel)) hI)
  refine hX.1 0 _ rfl _ _ _ _ ?_
  refine And.intro (fun c73 => ?_) (fun c73 => ?_)
  · -- 15
    exact hX.2 _ _ [(0, .inr 0), (1, .inl _)] _ _ _ (mWc rfl (mWc rfl mW0)) (b15 _ _ _  hI)
  · -- on
    refine And.intro (fun c74 => ?_) (fun c74 => ?_)
    · -- 15
      exact hX.2 _ _ [(0, .inr 0), (1, .inl _)] _ _ _ (mWc rfl (mWc rfl mW0)) (b15 _ _ _  hI)
    · -- on
      exact hX.2 _ _ [(0, .inr 0), (1, .inl _)] _ _ _ (mWc rfl (mWc rfl mW0)) (b16 _ _ _ _ (rg_w (c := 0) (d := 1) (rg_c (a := 1) (b := 1) (by decide +kernel)) (by decide +kernel)) hI)
def SPX9_signed (S : mSp) : Prop := ∀ (n e : Int) (f0 f : mFn) (g : mGn) (K : mKr) (x0 : Int32), rg 0 255 x0 → rI n e f0 f g → (∀ (y : Int32), rg (-128) 127 y → K (some (.inl y)) f g) → S [.inl x0] f g K
set_option maxRecDepth 100000 in
set_option maxHeartbeats 4000000 in
theorem sfX9_signed : SPX9_signed spX9_signed := by
  intro n e f0 f g K x0 hx0 hI hK
  refine ⟨rfl, fun X hX => ?_⟩
  have b16 : ∀ (s0 : Int32), rg (-128) 127 s0 → X 16 [] [.inl s0] f g := by
    intro s0 hs0
    refine hX.1 2 _ rfl _ _ _ _ ?_
    exact And.intro mRt_i (hK _ (rg_w (c := (-128)) (d := 127) hs0 (by decide +kernel)) )
  refine hX.1 0 _ rfl _ _ _ _ ?_
  refine And.intro (fun c2 => ?_) (fun c2 => ?_)
  · -- 15
    refine hX.1 1 _ rfl _ _ _ _ ?_
    exact hX.2 _ _ [] _ _ _ mW0 (b16 _ (rg_w (c := (-128)) (d := 127) (show rg 0 127 _ from (rg_lt hx0 (rg_c (a := 128) (b := 128) (by decide +kernel)) c2 (by decide +kernel))) (by decide +kernel)))
  · -- on
    exact hX.2 _ _ [] _ _ _ mW0 (b16 _ (rg_w (c := (-128)) (d := 127) (show rg (-128) (-1) _ from (rg_sub (show rg 128 255 _ from (rg_ge hx0 (rg_c (a := 128) (b := 128) (by decide +kernel)) (rg_nlt c2) (by decide +kernel))) (rg_c (a := 256) (b := 256) (by decide +kernel)) (by decide +kernel))) (by decide +kernel)))
def SPX9_setFlag (S : mSp) : Prop := ∀ (n e : Int) (f0 f : mFn) (g : mGn) (K : mKr) (x1 : Int32) (x2 : Int32), rg 0 7 x1 → rg 0 1 x2 → rI n e f0 f g → (∀ (f' : mFn) (g' : mGn), rI n e f0 f' g' → K none f' g') → S [.inr 0, .inl x1, .inl x2] f g K
set_option maxRecDepth 100000 in
set_option maxHeartbeats 4000000 in
theorem sfX9_setFlag : SPX9_setFlag spX9_setFlag := by
  intro n e f0 f g K x1 x2 hx1 hx2 hI hK
  refine ⟨rfl, fun X hX => ?_⟩
  have b37 : ∀ (s1 : Int32) (s2 : Int32) (f : mFn) (g : mGn), rg 95 95 s1 → rg 0 255 s2 → rI n e f0 f g → X 37 [] [.inl s2, .inl s1, .inr 3] f g := by
    intro s1 s2 f g hs1 hs2 hI
    refine hX.1 2 _ rfl _ _ _ _ ?_
    refine And.intro (rg_in hs1 (by decide +kernel)) ?_
    exact And.intro mRt_v (hK _ _ (gI_a1 hI 2 1280 (lo := 0) (hi := 255) (rg_w (c := 0) (d := 255) hs2 (by decide +kernel)) (by decide +kernel)))
  refine hX.1 0 _ rfl _ _ _ _ ?_
  refine And.intro (fun c4 => ?_) (fun c4 => ?_)
  · -- 24
    refine hX.1 1 _ rfl _ _ _ _ ?_
    refine And.intro (rg_in (rg_c (a := 95) (b := 95) (by decide +kernel)) (by decide +kernel)) ?_
    exact hX.2 _ _ [] _ _ _ mW0 (b37 _ _ _ _ (rg_w (c := 95) (d := 95) (rg_c (a := 95) (b := 95) (by decide +kernel)) (by decide +kernel)) (rg_w (c := 0) (d := 255) (show rg 0 255 _ from (rg_andL (gI_g hI 2 3 1280 0 255 rfl (rg_in (rg_c (a := 95) (b := 95) (by decide +kernel)) (by decide +kernel))) (by decide +kernel))) (by decide +kernel)) hI)
  · -- on
    refine And.intro (rg_in (rg_c (a := 95) (b := 95) (by decide +kernel)) (by decide +kernel)) ?_
    exact hX.2 _ _ [] _ _ _ mW0 (b37 _ _ _ _ (rg_w (c := 95) (d := 95) (rg_c (a := 95) (b := 95) (by decide +kernel)) (by decide +kernel)) (rg_w (c := 0) (d := 255) (show rg 0 255 _ from (rg_or (k := 8) (gI_g hI 2 3 1280 0 255 rfl (rg_in (rg_c (a := 95) (b := 95) (by decide +kernel)) (by decide +kernel))) (show rg 0 128 _ from (rg_shlV 7 (rg_c (a := 1) (b := 1) (by decide +kernel)) hx1 (by decide +kernel))) (by decide +kernel))) (by decide +kernel)) hI)
def SPX9_zero (S : mSp) : Prop := ∀ (n e : Int) (f0 f : mFn) (g : mGn) (K : mKr) (x1 : Int32), rg 0 255 x1 → rI n e f0 f g → (∀ (f' : mFn) (g' : mGn), rI n e f0 f' g' → K none f' g') → S [.inr 0, .inl x1] f g K
set_option maxRecDepth 100000 in
set_option maxHeartbeats 4000000 in
theorem sfX9_zero : SPX9_zero spX9_zero := by
  intro n e f0 f g K x1 hx1 hI hK
  refine ⟨rfl, fun X hX => ?_⟩
  obtain ⟨S_X9_setFlag, k_X9_setFlag, S_X9_flag, k_X9_flag, hX⟩ : ∃ S_X9_setFlag, SPX9_setFlag S_X9_setFlag ∧ ∃ S_X9_flag, SPX9_flag S_X9_flag ∧ mR shM fdX9_zero [(172, 0, 2, 12, S_X9_setFlag), (163, 0, 1, 12, S_X9_flag)] bsX9_zero (fun r f g => mRt none r ∧ K r f g) X := ⟨spX9_setFlag, sfX9_setFlag, spX9_flag, sfX9_flag, hX⟩
  have b51 : ∀ (s1 : Int32) (s2 : Int32) (f : mFn) (g : mGn), rg 4 4 s1 → rg 0 1 s2 → rI n e f0 f g → X 51 [] [.inl s2, .inl s1, .inr 0] f g := by
    intro s1 s2 f g hs1 hs2 hI
    refine hX.1 6 _ rfl _ _ _ _ ?_
    refine k_X9_setFlag n e f0 _ _ _ _ _ (rg_w (c := 0) (d := 7) hs1 (by decide +kernel)) (rg_w (c := 0) (d := 1) hs2 (by decide +kernel)) hI (fun f20 gf20 hI21 => ?_)
    exact And.intro mRt_v (hK _ _ hI21)
  have b28 : ∀ (s1 : Int32) (s2 : Int32) (f : mFn) (g : mGn), rg 1 1 s1 → rg 0 1 s2 → rI n e f0 f g → X 28 [(0, .inr 0)] [.inl s2, .inl s1, .inr 0] f g := by
    intro s1 s2 f g hs1 hs2 hI
    refine hX.1 4 _ rfl _ _ _ _ ?_
    refine k_X9_setFlag n e f0 _ _ _ _ _ (rg_w (c := 0) (d := 7) hs1 (by decide +kernel)) (rg_w (c := 0) (d := 1) hs2 (by decide +kernel)) hI (fun f23 gf23 hI24 => ?_)
    refine k_X9_flag n e f0 _ _ _ _ (rg_w (c := 0) (d := 7) (rg_c (a := 2) (b := 2) (by decide +kernel)) (by decide +kernel)) hI24 (fun y25 hy25 => ?_)
    refine k_X9_flag n e f0 _ _ _ _ (rg_w (c := 0) (d := 7) (rg_c (a := 3) (b := 3) (by decide +kernel)) (by decide +kernel)) hI24 (fun y28 hy28 => ?_)
    refine And.intro (fun c31 => ?_) (fun c31 => ?_)
    · -- 50
      refine hX.1 5 _ rfl _ _ _ _ ?_
      exact hX.2 _ _ [] _ _ _ mW0 (b51 _ _ _ _ (rg_w (c := 4) (d := 4) (rg_c (a := 4) (b := 4) (by decide +kernel)) (by decide +kernel)) (rg_w (c := 0) (d := 1) (rg_c (a := 0) (b := 0) (by decide +kernel)) (by decide +kernel)) hI24)
    · -- on
      exact hX.2 _ _ [] _ _ _ mW0 (b51 _ _ _ _ (rg_w (c := 4) (d := 4) (rg_c (a := 4) (b := 4) (by decide +kernel)) (by decide +kernel)) (rg_w (c := 0) (d := 1) (rg_c (a := 1) (b := 1) (by decide +kernel)) (by decide +kernel)) hI24)
  have b14 : ∀ (a1 : Int32) (s1 : Int32) (s2 : Int32) (f : mFn) (g : mGn), rg 0 255 a1 → rg 2 2 s1 → rg 0 1 s2 → rI n e f0 f g → X 14 [(0, .inr 0), (1, .inl a1)] [.inl s2, .inl s1, .inr 0] f g := by
    intro a1 s1 s2 f g ha1 hs1 hs2 hI
    refine hX.1 2 _ rfl _ _ _ _ ?_
    refine k_X9_setFlag n e f0 _ _ _ _ _ (rg_w (c := 0) (d := 7) hs1 (by decide +kernel)) (rg_w (c := 0) (d := 1) hs2 (by decide +kernel)) hI (fun f33 gf33 hI34 => ?_)
    refine And.intro (fun c35 => ?_) (fun c35 => ?_)
    · -- 27
      refine hX.1 3 _ rfl _ _ _ _ ?_
      exact hX.2 _ _ [(0, .inr 0)] _ _ _ (mWc rfl mW0) (b28 _ _ _ _ (rg_w (c := 1) (d := 1) (rg_c (a := 1) (b := 1) (by decide +kernel)) (by decide +kernel)) (rg_w (c := 0) (d := 1) (rg_c (a := 0) (b := 0) (by decide +kernel)) (by decide +kernel)) hI34)
    · -- on
      exact hX.2 _ _ [(0, .inr 0)] _ _ _ (mWc rfl mW0) (b28 _ _ _ _ (rg_w (c := 1) (d := 1) (rg_c (a := 1) (b := 1) (by decide +kernel)) (by decide +kernel)) (rg_w (c := 0) (d := 1) (rg_c (a := 1) (b := 1) (by decide +kernel)) (by decide +kernel)) hI34)
  refine hX.1 0 _ rfl _ _ _ _ ?_
  refine And.intro (fun c36 => ?_) (fun c36 => ?_)
  · -- 13
    refine hX.1 1 _ rfl _ _ _ _ ?_
    exact hX.2 _ _ [(0, .inr 0), (1, .inl _)] _ _ _ (mWc rfl (mWc rfl mW0)) (b14 _ _ _ _ _ (rg_w (c := 0) (d := 255) (show rg 0 127 _ from (rg_lt hx1 (rg_c (a := 128) (b := 128) (by decide +kernel)) c36 (by decide +kernel))) (by decide +kernel)) (rg_w (c := 2) (d := 2) (rg_c (a := 2) (b := 2) (by decide +kernel)) (by decide +kernel)) (rg_w (c := 0) (d := 1) (rg_c (a := 0) (b := 0) (by decide +kernel)) (by decide +kernel)) hI)
  · -- on
    exact hX.2 _ _ [(0, .inr 0), (1, .inl _)] _ _ _ (mWc rfl (mWc rfl mW0)) (b14 _ _ _ _ _ (rg_w (c := 0) (d := 255) (show rg 128 255 _ from (rg_ge hx1 (rg_c (a := 128) (b := 128) (by decide +kernel)) (rg_nlt c36) (by decide +kernel))) (by decide +kernel)) (rg_w (c := 2) (d := 2) (rg_c (a := 2) (b := 2) (by decide +kernel)) (by decide +kernel)) (rg_w (c := 0) (d := 1) (rg_c (a := 1) (b := 1) (by decide +kernel)) (by decide +kernel)) hI)
def SPX9_add (S : mSp) : Prop := ∀ (n e : Int) (f0 f : mFn) (g : mGn) (K : mKr) (x1 : Int32) (x2 : Int32) (x3 : Int32), rg 0 255 x1 → rg 0 255 x2 → rg 0 1 x3 → rI n e f0 f g → (∀ (y : Int32) (f' : mFn) (g' : mGn), rg 0 255 y → rI n e f0 f' g' → K (some (.inl y)) f' g') → S [.inr 0, .inl x1, .inl x2, .inl x3] f g K
set_option maxRecDepth 100000 in
set_option maxHeartbeats 4000000 in
theorem sfX9_add : SPX9_add spX9_add := by
  intro n e f0 f g K x1 x2 x3 hx1 hx2 hx3 hI hK
  refine ⟨rfl, fun X hX => ?_⟩
  obtain ⟨S_X9_signed, k_X9_signed, S_X9_setFlag, k_X9_setFlag, S_X9_zero, k_X9_zero, hX⟩ : ∃ S_X9_signed, SPX9_signed S_X9_signed ∧ ∃ S_X9_setFlag, SPX9_setFlag S_X9_setFlag ∧ ∃ S_X9_zero, SPX9_zero S_X9_zero ∧ mR shM fdX9_add [(250, 1, 1, 0, S_X9_signed), (172, 0, 2, 12, S_X9_setFlag), (253, 0, 1, 12, S_X9_zero)] bsX9_add (fun r f g => mRt (some .int) r ∧ K r f g) X := ⟨spX9_signed, sfX9_signed, spX9_setFlag, sfX9_setFlag, spX9_zero, sfX9_zero, hX⟩
  have b92 : ∀ (a4 : Int32) (s1 : Int32) (s2 : Int32) (f : mFn) (g : mGn), rg 0 255 a4 → rg 3 3 s1 → rg 0 1 s2 → rI n e f0 f g → X 92 [(0, .inr 0), (4, .inl a4)] [.inl s2, .inl s1, .inr 0] f g := by
    intro a4 s1 s2 f g ha4 hs1 hs2 hI
    refine hX.1 7 _ rfl _ _ _ _ ?_
    refine k_X9_setFlag n e f0 _ _ _ _ _ (rg_w (c := 0) (d := 7) hs1 (by decide +kernel)) (rg_w (c := 0) (d := 1) hs2 (by decide +kernel)) hI (fun f24 gf24 hI25 => ?_)
    refine k_X9_zero n e f0 _ _ _ _ (rg_w (c := 0) (d := 255) ha4 (by decide +kernel)) hI25 (fun f27 gf27 hI28 => ?_)
    exact And.intro mRt_i (hK _ _ _ (rg_w (c := 0) (d := 255) ha4 (by decide +kernel)) hI28)
  have b87 : ∀ (a4 : Int32) (s1 : Int32) (f : mFn) (g : mGn), rg 0 255 a4 → rg 3 3 s1 → rI n e f0 f g → X 87 [(0, .inr 0), (4, .inl a4)] [.inl s1, .inr 0] f g := by
    intro a4 s1 f g ha4 hs1 hI
    refine hX.1 5 _ rfl _ _ _ _ ?_
    exact hX.2 _ _ [(0, .inr 0), (4, .inl _)] _ _ _ (mWc rfl (mWc rfl mW0)) (b92 _ _ _ _ _ (rg_w (c := 0) (d := 255) ha4 (by decide +kernel)) (rg_w (c := 3) (d := 3) hs1 (by decide +kernel)) (rg_w (c := 0) (d := 1) (rg_c (a := 1) (b := 1) (by decide +kernel)) (by decide +kernel)) hI)
  have b68 : ∀ (a4 : Int32) (a5 : Int32) (s1 : Int32) (s2 : Int32) (f : mFn) (g : mGn), rg 0 255 a4 → rg (-256) 255 a5 → rg 0 0 s1 → rg 0 1 s2 → rI n e f0 f g → X 68 [(0, .inr 0), (4, .inl a4), (5, .inl a5)] [.inl s2, .inl s1, .inr 0] f g := by
    intro a4 a5 s1 s2 f g ha4 ha5 hs1 hs2 hI
    refine hX.1 4 _ rfl _ _ _ _ ?_
    refine k_X9_setFlag n e f0 _ _ _ _ _ (rg_w (c := 0) (d := 7) hs1 (by decide +kernel)) (rg_w (c := 0) (d := 1) hs2 (by decide +kernel)) hI (fun f30 gf30 hI31 => ?_)
    refine And.intro (fun c32 => ?_) (fun c32 => ?_)
    · -- 87
      exact hX.2 _ _ [(0, .inr 0), (4, .inl _)] _ _ _ (mWc rfl (mWc rfl mW0)) (b87 _ _ _ _ (rg_w (c := 0) (d := 255) ha4 (by decide +kernel)) (rg_w (c := 3) (d := 3) (rg_c (a := 3) (b := 3) (by decide +kernel)) (by decide +kernel)) hI31)
    · -- on
      refine And.intro (fun c33 => ?_) (fun c33 => ?_)
      · -- 91
        refine hX.1 6 _ rfl _ _ _ _ ?_
        exact hX.2 _ _ [(0, .inr 0), (4, .inl _)] _ _ _ (mWc rfl (mWc rfl mW0)) (b92 _ _ _ _ _ (rg_w (c := 0) (d := 255) ha4 (by decide +kernel)) (rg_w (c := 3) (d := 3) (rg_c (a := 3) (b := 3) (by decide +kernel)) (by decide +kernel)) (rg_w (c := 0) (d := 1) (rg_c (a := 0) (b := 0) (by decide +kernel)) (by decide +kernel)) hI31)
      · -- on
        exact hX.2 _ _ [(0, .inr 0), (4, .inl _)] _ _ _ (mWc rfl (mWc rfl mW0)) (b87 _ _ _ _ (rg_w (c := 0) (d := 255) ha4 (by decide +kernel)) (rg_w (c := 3) (d := 3) (rg_c (a := 3) (b := 3) (by decide +kernel)) (by decide +kernel)) hI31)
  have b47 : ∀ (a1 : Int32) (a2 : Int32) (a3 : Int32) (a4 : Int32) (a5 : Int32) (s1 : Int32) (s2 : Int32) (f : mFn) (g : mGn), rg 0 255 a1 → rg 0 255 a2 → rg 0 1 a3 → rg 0 255 a4 → rg (-256) 255 a5 → rg 5 5 s1 → rg 0 1 s2 → rI n e f0 f g → X 47 [(0, .inr 0), (1, .inl a1), (2, .inl a2), (3, .inl a3), (4, .inl a4), (5, .inl a5)] [.inl s2, .inl s1, .inr 0] f g := by
    intro a1 a2 a3 a4 a5 s1 s2 f g ha1 ha2 ha3 ha4 ha5 hs1 hs2 hI
    refine hX.1 2 _ rfl _ _ _ _ ?_
    refine k_X9_setFlag n e f0 _ _ _ _ _ (rg_w (c := 0) (d := 7) hs1 (by decide +kernel)) (rg_w (c := 0) (d := 1) hs2 (by decide +kernel)) hI (fun f35 gf35 hI36 => ?_)
    refine And.intro (fun c37 => ?_) (fun c37 => ?_)
    · -- 67
      refine hX.1 3 _ rfl _ _ _ _ ?_
      exact hX.2 _ _ [(0, .inr 0), (4, .inl _), (5, .inl _)] _ _ _ (mWc rfl (mWc rfl (mWc rfl mW0))) (b68 _ _ _ _ _ _ (rg_w (c := 0) (d := 255) ha4 (by decide +kernel)) (rg_w (c := (-256)) (d := 255) ha5 (by decide +kernel)) (rg_w (c := 0) (d := 0) (rg_c (a := 0) (b := 0) (by decide +kernel)) (by decide +kernel)) (rg_w (c := 0) (d := 1) (rg_c (a := 0) (b := 0) (by decide +kernel)) (by decide +kernel)) hI36)
    · -- on
      exact hX.2 _ _ [(0, .inr 0), (4, .inl _), (5, .inl _)] _ _ _ (mWc rfl (mWc rfl (mWc rfl mW0))) (b68 _ _ _ _ _ _ (rg_w (c := 0) (d := 255) ha4 (by decide +kernel)) (rg_w (c := (-256)) (d := 255) ha5 (by decide +kernel)) (rg_w (c := 0) (d := 0) (rg_c (a := 0) (b := 0) (by decide +kernel)) (by decide +kernel)) (rg_w (c := 0) (d := 1) (rg_c (a := 1) (b := 1) (by decide +kernel)) (by decide +kernel)) hI36)
  refine hX.1 0 _ rfl _ _ _ _ ?_
  refine k_X9_signed n e f0 _ _ _ _ (rg_w (c := 0) (d := 255) hx1 (by decide +kernel)) hI (fun y38 hy38 => ?_)
  refine k_X9_signed n e f0 _ _ _ _ (rg_w (c := 0) (d := 255) hx2 (by decide +kernel)) hI (fun y41 hy41 => ?_)
  refine And.intro (fun c44 => ?_) (fun c44 => ?_)
  · -- 46
    refine hX.1 1 _ rfl _ _ _ _ ?_
    exact hX.2 _ _ [(0, .inr 0), (1, .inl _), (2, .inl _), (3, .inl _), (4, .inl _), (5, .inl _)] _ _ _ (mWc rfl (mWc rfl (mWc rfl (mWc rfl (mWc rfl (mWc rfl mW0)))))) (b47 _ _ _ _ _ _ _ _ _ (rg_w (c := 0) (d := 255) hx1 (by decide +kernel)) (rg_w (c := 0) (d := 255) hx2 (by decide +kernel)) (rg_w (c := 0) (d := 1) hx3 (by decide +kernel)) (rg_w (c := 0) (d := 255) (show rg 0 255 _ from (rg_andR (rg_c (a := 255) (b := 255) (by decide +kernel)) (by decide +kernel))) (by decide +kernel)) (rg_w (c := (-256)) (d := 255) (show rg (-256) 255 _ from (rg_add (show rg (-256) 254 _ from (rg_add hy38 hy41 (by decide +kernel))) hx3 (by decide +kernel))) (by decide +kernel)) (rg_w (c := 5) (d := 5) (rg_c (a := 5) (b := 5) (by decide +kernel)) (by decide +kernel)) (rg_w (c := 0) (d := 1) (rg_c (a := 0) (b := 0) (by decide +kernel)) (by decide +kernel)) hI)
  · -- on
    exact hX.2 _ _ [(0, .inr 0), (1, .inl _), (2, .inl _), (3, .inl _), (4, .inl _), (5, .inl _)] _ _ _ (mWc rfl (mWc rfl (mWc rfl (mWc rfl (mWc rfl (mWc rfl mW0)))))) (b47 _ _ _ _ _ _ _ _ _ (rg_w (c := 0) (d := 255) hx1 (by decide +kernel)) (rg_w (c := 0) (d := 255) hx2 (by decide +kernel)) (rg_w (c := 0) (d := 1) hx3 (by decide +kernel)) (rg_w (c := 0) (d := 255) (show rg 0 255 _ from (rg_andR (rg_c (a := 255) (b := 255) (by decide +kernel)) (by decide +kernel))) (by decide +kernel)) (rg_w (c := (-256)) (d := 255) (show rg (-256) 255 _ from (rg_add (show rg (-256) 254 _ from (rg_add hy38 hy41 (by decide +kernel))) hx3 (by decide +kernel))) (by decide +kernel)) (rg_w (c := 5) (d := 5) (rg_c (a := 5) (b := 5) (by decide +kernel)) (by decide +kernel)) (rg_w (c := 0) (d := 1) (rg_c (a := 1) (b := 1) (by decide +kernel)) (by decide +kernel)) hI)
