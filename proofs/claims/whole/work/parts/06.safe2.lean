def SPX1_portBit (S : mSp) : Prop := ∀ (n e : Int) (f0 f : mFn) (g : mGn) (K : mKr) (x1 : Int32), n + 1 ≤ 300000000 → cI n e f0 f g → (∀ (y : Int32) (f' : mFn) (g' : mGn), rg 1 3 y → cI (n + 1) e f0 f' g' → K (some (.inl y)) f' g') → S [.inr 2, .inl x1] f g K
set_option maxRecDepth 100000 in
set_option maxHeartbeats 4000000 in
theorem sfX1_portBit : SPX1_portBit spX1_portBit := by
  intro n e f0 f g K x1  hB hI hK
  refine ⟨rfl, fun X hX => ?_⟩
  obtain ⟨S_X5_load, k_X5_load, S_X1_skipIf, k_X1_skipIf, S_X5_store, k_X5_store, hX⟩ : ∃ S_X5_load, SPX5_load S_X5_load ∧ ∃ S_X1_skipIf, SPX1_skipIf S_X1_skipIf ∧ ∃ S_X5_store, SPX5_store S_X5_store ∧ mR shC fdX1_portBit [(182, 0, 1, 8, S_X5_load), (166, 0, 1, 4, S_X1_skipIf), (179, 0, 2, 8, S_X5_store)] bsX1_portBit (fun r f g => mRt (some .int) r ∧ K r f g) X := ⟨spX5_load, sfX5_load, spX1_skipIf, sfX1_skipIf, spX5_store, sfX5_store, hX⟩
  have b73 : ∀ (s1 : Int32) (f : mFn) (g : mGn), rg 0 1 s1 → cI n e f0 f g → X 73 [] [.inl s1, .inr 2] f g := by
    intro s1 f g hs1 hI
    refine hX.1 6 _ rfl _ _ _ _ ?_
    refine k_X1_skipIf n _ f0 _ _ _ _ (rg_w (c := 0) (d := 1) hs1 (by decide +kernel)) hI (fun y22 f23 gf23 hy22 hI24 => ?_)
    exact And.intro mRt_i (hK _ _ _ (rg_w (c := 1) (d := 3) hy22 (by decide +kernel)) (cM hI24 (by omega) (by omega)))
  have b63 : ∀ (a4 : Int32) (s1 : Int32) (f : mFn) (g : mGn), rg 0 1 a4 → rg 0 1 s1 → cI n e f0 f g → X 63 [(4, .inl a4)] [.inl s1, .inr 2] f g := by
    intro a4 s1 f g ha4 hs1 hI
    refine hX.1 4 _ rfl _ _ _ _ ?_
    refine And.intro (fun c25 => ?_) (fun c25 => ?_)
    · -- 72
      refine hX.1 5 _ rfl _ _ _ _ ?_
      exact hX.2 _ _ [] _ _ _ mW0 (b73 _ _ _ (rg_w (c := 0) (d := 1) (rg_c (a := 0) (b := 0) (by decide +kernel)) (by decide +kernel)) hI)
    · -- on
      exact hX.2 _ _ [] _ _ _ mW0 (b73 _ _ _ (rg_w (c := 0) (d := 1) (rg_c (a := 1) (b := 1) (by decide +kernel)) (by decide +kernel)) hI)
  have b144 : ∀ (f : mFn) (g : mGn), cI (n + 1) e f0 f g → X 144 [] [] f g := by
    intro  f g  hI
    refine hX.1 14 _ rfl _ _ _ _ ?_
    exact And.intro mRt_i (hK _ _ _ (rg_w (c := 1) (d := 3) (rg_c (a := 2) (b := 2) (by decide +kernel)) (by decide +kernel)) hI)
  have b119 : ∀ (s1 : Int32) (s2 : Int32) (f : mFn) (g : mGn), rg 32 63 s1 → cI n e f0 f g → X 119 [] [.inl s2, .inl s1, .inr 1] f g := by
    intro s1 s2 f g hs1 hI
    refine hX.1 12 _ rfl _ _ _ _ ?_
    refine k_X5_store n _ f0 _ _ _ _ _  (by omega) hI (fun f27 gf27 hI28 => ?_)
    exact hX.2 _ _ [] _ _ _ mW0 (b144  _ _  hI28)
  have b94 : ∀ (a2 : Int32) (a3 : Int32) (a4 : Int32) (a5 : Int32) (s0 : Int32) (f : mFn) (g : mGn), rg 32 63 a2 → rg 0 128 a3 → rg 0 1 a4 → rg 0 1 s0 → cI n e f0 f g → X 94 [(0, .inr 2), (2, .inl a2), (3, .inl a3), (4, .inl a4), (5, .inl a5)] [.inl s0] f g := by
    intro a2 a3 a4 a5 s0 f g ha2 ha3 ha4 hs0 hI
    refine hX.1 10 _ rfl _ _ _ _ ?_
    refine And.intro (fun c29 => ?_) (fun c29 => ?_)
    · -- 125
      refine hX.1 13 _ rfl _ _ _ _ ?_
      refine And.intro (fun c30 => ?_) (fun c30 => ?_)
      · -- 144
        exact hX.2 _ _ [] _ _ _ mW0 (b144  _ _  (cM hI (by omega) (by omega)))
      · -- on
        refine k_X5_store n _ f0 _ _ _ _ _  (by omega) hI (fun f32 gf32 hI33 => ?_)
        exact hX.2 _ _ [] _ _ _ mW0 (b144  _ _  hI33)
    · -- on
      refine And.intro (fun c34 => ?_) (fun c34 => ?_)
      · -- 115
        refine hX.1 11 _ rfl _ _ _ _ ?_
        exact hX.2 _ _ [] _ _ _ mW0 (b119 _ _ _ _ (rg_w (c := 32) (d := 63) ha2 (by decide +kernel)) hI)
      · -- on
        exact hX.2 _ _ [] _ _ _ mW0 (b119 _ _ _ _ (rg_w (c := 32) (d := 63) ha2 (by decide +kernel)) hI)
  have b89 : ∀ (a2 : Int32) (a3 : Int32) (a4 : Int32) (a5 : Int32) (f : mFn) (g : mGn), rg 35 53 a2 → rg 0 128 a3 → rg 0 1 a4 → cI n e f0 f g → X 89 [(0, .inr 2), (2, .inl a2), (3, .inl a3), (4, .inl a4), (5, .inl a5)] [] f g := by
    intro a2 a3 a4 a5 f g ha2 ha3 ha4 hI
    refine hX.1 8 _ rfl _ _ _ _ ?_
    exact hX.2 _ _ [(0, .inr 2), (2, .inl _), (3, .inl _), (4, .inl _), (5, .inl _)] _ _ _ (mWc rfl (mWc rfl (mWc rfl (mWc rfl (mWc rfl mW0))))) (b94 _ _ _ _ _ _ _ (rg_w (c := 32) (d := 63) ha2 (by decide +kernel)) (rg_w (c := 0) (d := 128) ha3 (by decide +kernel)) (rg_w (c := 0) (d := 1) ha4 (by decide +kernel)) (rg_w (c := 0) (d := 1) (rg_c (a := 1) (b := 1) (by decide +kernel)) (by decide +kernel)) hI)
  have b30 : ∀ (a1 : Int32) (a2 : Int32) (a3 : Int32) (s0 : Int32) (f : mFn) (g : mGn), rg 32 63 a2 → rg 0 128 a3 → rg 0 1 s0 → cI n e f0 f g → X 30 [(0, .inr 2), (1, .inl a1), (2, .inl a2), (3, .inl a3)] [.inl s0] f g := by
    intro a1 a2 a3 s0 f g ha2 ha3 hs0 hI
    refine hX.1 2 _ rfl _ _ _ _ ?_
    refine k_X5_load n _ f0 _ _ _ _  hI (fun y35 f36 gf36 hI37 => ?_)
    refine And.intro (fun c38 => ?_) (fun c38 => ?_)
    · -- 77
      refine hX.1 7 _ rfl _ _ _ _ ?_
      refine And.intro (fun c39 => ?_) (fun c39 => ?_)
      · -- 89
        exact hX.2 _ _ [(0, .inr 2), (2, .inl _), (3, .inl _), (4, .inl _), (5, .inl _)] _ _ _ (mWc rfl (mWc rfl (mWc rfl (mWc rfl (mWc rfl mW0))))) (b89 _ _ _ _ _ _ (rg_w (c := 35) (d := 53) (show rg 35 35 _ from (rg_eq (rg_c (a := 35) (b := 35) (by decide +kernel)) c39)) (by decide +kernel)) (rg_w (c := 0) (d := 128) ha3 (by decide +kernel)) (rg_w (c := 0) (d := 1) hs0 (by decide +kernel)) hI37)
      · -- on
        refine And.intro (fun c40 => ?_) (fun c40 => ?_)
        · -- 93
          refine hX.1 9 _ rfl _ _ _ _ ?_
          exact hX.2 _ _ [(0, .inr 2), (2, .inl _), (3, .inl _), (4, .inl _), (5, .inl _)] _ _ _ (mWc rfl (mWc rfl (mWc rfl (mWc rfl (mWc rfl mW0))))) (b94 _ _ _ _ _ _ _ (rg_w (c := 32) (d := 63) ha2 (by decide +kernel)) (rg_w (c := 0) (d := 128) ha3 (by decide +kernel)) (rg_w (c := 0) (d := 1) hs0 (by decide +kernel)) (rg_w (c := 0) (d := 1) (rg_c (a := 0) (b := 0) (by decide +kernel)) (by decide +kernel)) hI37)
        · -- on
          exact hX.2 _ _ [(0, .inr 2), (2, .inl _), (3, .inl _), (4, .inl _), (5, .inl _)] _ _ _ (mWc rfl (mWc rfl (mWc rfl (mWc rfl (mWc rfl mW0))))) (b89 _ _ _ _ _ _ (rg_w (c := 35) (d := 53) (show rg 53 53 _ from (rg_eq (rg_c (a := 53) (b := 53) (by decide +kernel)) c40)) (by decide +kernel)) (rg_w (c := 0) (d := 128) ha3 (by decide +kernel)) (rg_w (c := 0) (d := 1) hs0 (by decide +kernel)) hI37)
    · -- on
      refine And.intro (fun c41 => ?_) (fun c41 => ?_)
      · -- 62
        refine hX.1 3 _ rfl _ _ _ _ ?_
        exact hX.2 _ _ [(4, .inl _)] _ _ _ (mWc rfl mW0) (b63 _ _ _ _ (rg_w (c := 0) (d := 1) hs0 (by decide +kernel)) (rg_w (c := 0) (d := 1) (rg_c (a := 0) (b := 0) (by decide +kernel)) (by decide +kernel)) hI37)
      · -- on
        exact hX.2 _ _ [(4, .inl _)] _ _ _ (mWc rfl mW0) (b63 _ _ _ _ (rg_w (c := 0) (d := 1) hs0 (by decide +kernel)) (rg_w (c := 0) (d := 1) (rg_c (a := 1) (b := 1) (by decide +kernel)) (by decide +kernel)) hI37)
  refine hX.1 0 _ rfl _ _ _ _ ?_
  refine And.intro (fun c42 => ?_) (fun c42 => ?_)
  · -- 29
    refine hX.1 1 _ rfl _ _ _ _ ?_
    exact hX.2 _ _ [(0, .inr 2), (1, .inl _), (2, .inl _), (3, .inl _)] _ _ _ (mWc rfl (mWc rfl (mWc rfl (mWc rfl mW0)))) (b30 _ _ _ _ _ _ (rg_w (c := 32) (d := 63) (show rg 32 63 _ from (rg_add (rg_c (a := 32) (b := 32) (by decide +kernel)) (show rg 0 31 _ from (rg_andR (rg_c (a := 31) (b := 31) (by decide +kernel)) (by decide +kernel))) (by decide +kernel))) (by decide +kernel)) (rg_w (c := 0) (d := 128) (show rg 0 128 _ from (rg_shlV 7 (rg_c (a := 1) (b := 1) (by decide +kernel)) (show rg 0 7 _ from (rg_andR (rg_c (a := 7) (b := 7) (by decide +kernel)) (by decide +kernel))) (by decide +kernel))) (by decide +kernel)) (rg_w (c := 0) (d := 1) (rg_c (a := 0) (b := 0) (by decide +kernel)) (by decide +kernel)) hI)
  · -- on
    exact hX.2 _ _ [(0, .inr 2), (1, .inl _), (2, .inl _), (3, .inl _)] _ _ _ (mWc rfl (mWc rfl (mWc rfl (mWc rfl mW0)))) (b30 _ _ _ _ _ _ (rg_w (c := 32) (d := 63) (show rg 32 63 _ from (rg_add (rg_c (a := 32) (b := 32) (by decide +kernel)) (show rg 0 31 _ from (rg_andR (rg_c (a := 31) (b := 31) (by decide +kernel)) (by decide +kernel))) (by decide +kernel))) (by decide +kernel)) (rg_w (c := 0) (d := 128) (show rg 0 128 _ from (rg_shlV 7 (rg_c (a := 1) (b := 1) (by decide +kernel)) (show rg 0 7 _ from (rg_andR (rg_c (a := 7) (b := 7) (by decide +kernel)) (by decide +kernel))) (by decide +kernel))) (by decide +kernel)) (rg_w (c := 0) (d := 1) (rg_c (a := 1) (b := 1) (by decide +kernel)) (by decide +kernel)) hI)
def SPX1_withNumber (S : mSp) : Prop := ∀ (n e : Int) (f0 f : mFn) (g : mGn) (K : mKr) (x1 : Int32), cI n e f0 f g → (∀ (y : Int32) (f' : mFn) (g' : mGn), rg 1 1 y → cI n e f0 f' g' → K (some (.inl y)) f' g') → S [.inr 2, .inl x1] f g K
set_option maxRecDepth 100000 in
set_option maxHeartbeats 4000000 in
theorem sfX1_withNumber : SPX1_withNumber spX1_withNumber := by
  intro n e f0 f g K x1  hI hK
  refine ⟨rfl, fun X hX => ?_⟩
  obtain ⟨S_X0_subtract, k_X0_subtract, S_X0_subtractOn, k_X0_subtractOn, S_X0_logic, k_X0_logic, hX⟩ : ∃ S_X0_subtract, SPX0_subtract S_X0_subtract ∧ ∃ S_X0_subtractOn, SPX0_subtractOn S_X0_subtractOn ∧ ∃ S_X0_logic, SPX0_logic S_X0_logic ∧ mR shC fdX1_withNumber [(170, 0, 3, 3, S_X0_subtract), (142, 0, 2, 3, S_X0_subtractOn), (176, 0, 1, 3, S_X0_logic)] bsX1_withNumber (fun r f g => mRt (some .int) r ∧ K r f g) X := ⟨spX0_subtract, sfX0_subtract, spX0_subtractOn, sfX0_subtractOn, spX0_logic, sfX0_logic, hX⟩
  have b169 : ∀ (f : mFn) (g : mGn), cI n e f0 f g → X 169 [] [] f g := by
    intro  f g  hI
    refine hX.1 7 _ rfl _ _ _ _ ?_
    exact And.intro mRt_i (hK _ _ _ (rg_w (c := 1) (d := 1) (rg_c (a := 1) (b := 1) (by decide +kernel)) (by decide +kernel)) hI)
  refine hX.1 0 _ rfl _ _ _ _ ?_
  refine And.intro (rg_in (show rg 16 31 _ from (rg_add (rg_c (a := 16) (b := 16) (by decide +kernel)) (show rg 0 15 _ from (rg_andR (rg_c (a := 15) (b := 15) (by decide +kernel)) (by decide +kernel))) (by decide +kernel))) (by decide +kernel)) ?_
  refine And.intro (fun c26 => ?_) (fun c26 => ?_)
  · -- 68
    refine hX.1 1 _ rfl _ _ _ _ ?_
    refine k_X0_subtract n _ f0 _ _ _ _ _ _ (rg_w (c := 0) (d := 1) (rg_c (a := 0) (b := 0) (by decide +kernel)) (by decide +kernel)) hI (fun y27 f28 gf28 hy27 hI29 => ?_)
    exact hX.2 _ _ [] _ _ _ mW0 (b169  _ _  hI29)
  · -- on
    refine And.intro (fun c30 => ?_) (fun c30 => ?_)
    · -- 83
      refine hX.1 2 _ rfl _ _ _ _ ?_
      refine k_X0_subtractOn n _ f0 _ _ _ _ _  hI (fun y31 f32 gf32 hy31 hI33 => ?_)
      refine And.intro (rg_in (show rg 16 31 _ from (rg_add (rg_c (a := 16) (b := 16) (by decide +kernel)) (show rg 0 15 _ from (rg_andR (rg_c (a := 15) (b := 15) (by decide +kernel)) (by decide +kernel))) (by decide +kernel))) (by decide +kernel)) ?_
      exact hX.2 _ _ [] _ _ _ mW0 (b169  _ _  (gI_a0 hI33 (by decide +kernel)))
    · -- on
      refine And.intro (fun c35 => ?_) (fun c35 => ?_)
      · -- 102
        refine hX.1 3 _ rfl _ _ _ _ ?_
        refine k_X0_subtract n _ f0 _ _ _ _ _ _ (rg_w (c := 0) (d := 1) (rg_c (a := 0) (b := 0) (by decide +kernel)) (by decide +kernel)) hI (fun y36 f37 gf37 hy36 hI38 => ?_)
        refine And.intro (rg_in (show rg 16 31 _ from (rg_add (rg_c (a := 16) (b := 16) (by decide +kernel)) (show rg 0 15 _ from (rg_andR (rg_c (a := 15) (b := 15) (by decide +kernel)) (by decide +kernel))) (by decide +kernel))) (by decide +kernel)) ?_
        exact hX.2 _ _ [] _ _ _ mW0 (b169  _ _  (gI_a0 hI38 (by decide +kernel)))
      · -- on
        refine And.intro (fun c40 => ?_) (fun c40 => ?_)
        · -- 122
          refine hX.1 4 _ rfl _ _ _ _ ?_
          refine k_X0_logic n _ f0 _ _ _ _  hI (fun y41 f42 gf42 hI43 => ?_)
          refine And.intro (rg_in (show rg 16 31 _ from (rg_add (rg_c (a := 16) (b := 16) (by decide +kernel)) (show rg 0 15 _ from (rg_andR (rg_c (a := 15) (b := 15) (by decide +kernel)) (by decide +kernel))) (by decide +kernel))) (by decide +kernel)) ?_
          exact hX.2 _ _ [] _ _ _ mW0 (b169  _ _  (gI_a0 hI43 (by decide +kernel)))
        · -- on
          refine And.intro (fun c45 => ?_) (fun c45 => ?_)
          · -- 142
            refine hX.1 5 _ rfl _ _ _ _ ?_
            refine k_X0_logic n _ f0 _ _ _ _  hI (fun y46 f47 gf47 hI48 => ?_)
            refine And.intro (rg_in (show rg 16 31 _ from (rg_add (rg_c (a := 16) (b := 16) (by decide +kernel)) (show rg 0 15 _ from (rg_andR (rg_c (a := 15) (b := 15) (by decide +kernel)) (by decide +kernel))) (by decide +kernel))) (by decide +kernel)) ?_
            exact hX.2 _ _ [] _ _ _ mW0 (b169  _ _  (gI_a0 hI48 (by decide +kernel)))
          · -- on
            refine hX.1 6 _ rfl _ _ _ _ ?_
            refine And.intro (rg_in (show rg 16 31 _ from (rg_add (rg_c (a := 16) (b := 16) (by decide +kernel)) (show rg 0 15 _ from (rg_andR (rg_c (a := 15) (b := 15) (by decide +kernel)) (by decide +kernel))) (by decide +kernel))) (by decide +kernel)) ?_
            exact hX.2 _ _ [] _ _ _ mW0 (b169  _ _  (gI_a0 hI (by decide +kernel)))
def SPX1_instruction (S : mSp) : Prop := ∀ (n e : Int) (f0 f : mFn) (g : mGn) (K : mKr), n + 2 ≤ 300000000 → cI n e f0 f g → (∀ (y : Int32) (f' : mFn) (g' : mGn), rg 1 8001 y → cI (n + 2) e f0 f' g' → K (some (.inl y)) f' g') → S [.inr 2] f g K
-- by hand: writes counted scalar 72
theorem sfX1_instruction : SPX1_instruction spX1_instruction := by
  sorry
def SPX1_waitingInterrupt (S : mSp) : Prop := ∀ (n e : Int) (f0 f : mFn) (g : mGn) (K : mKr), cI n e f0 f g → (∀ (y : Int32) (f' : mFn) (g' : mGn), rg 0 8 y → cI n e f0 f' g' → K (some (.inl y)) f' g') → S [.inr 2] f g K
set_option maxRecDepth 100000 in
set_option maxHeartbeats 4000000 in
theorem sfX1_waitingInterrupt : SPX1_waitingInterrupt spX1_waitingInterrupt := by
  intro n e f0 f g K   hI hK
  refine ⟨rfl, fun X hX => ?_⟩
  have b155 : ∀ (s0 : Int32) (f : mFn) (g : mGn), rg 0 8 s0 → cI n e f0 f g → X 155 [] [.inl s0] f g := by
    intro s0 f g hs0 hI
    refine hX.1 10 _ rfl _ _ _ _ ?_
    exact And.intro mRt_i (hK _ _ _ (rg_w (c := 0) (d := 8) hs0 (by decide +kernel)) hI)
  refine hX.1 0 _ rfl _ _ _ _ ?_
  refine And.intro (rg_in (rg_c (a := 95) (b := 95) (by decide +kernel)) (by decide +kernel)) ?_
  refine And.intro (fun c10 => ?_) (fun c10 => ?_)
  · -- 16
    refine hX.1 1 _ rfl _ _ _ _ ?_
    refine And.intro (rg_in (rg_c (a := 96) (b := 96) (by decide +kernel)) (by decide +kernel)) ?_
    refine And.intro (fun c11 => ?_) (fun c11 => ?_)
    · -- 35
      refine hX.1 2 _ rfl _ _ _ _ ?_
      refine And.intro (rg_in (rg_c (a := 53) (b := 53) (by decide +kernel)) (by decide +kernel)) ?_
      refine And.intro (rg_in (rg_c (a := 110) (b := 110) (by decide +kernel)) (by decide +kernel)) ?_
      refine And.intro (fun c12 => ?_) (fun c12 => ?_)
      · -- 59
        refine hX.1 3 _ rfl _ _ _ _ ?_
        refine And.intro (fun c13 => ?_) (fun c13 => ?_)
        · -- 67
          refine hX.1 4 _ rfl _ _ _ _ ?_
          refine And.intro (rg_in (rg_c (a := 192) (b := 192) (by decide +kernel)) (by decide +kernel)) ?_
          refine And.intro (rg_in (rg_c (a := 193) (b := 193) (by decide +kernel)) (by decide +kernel)) ?_
          refine And.intro (fun c14 => ?_) (fun c14 => ?_)
          · -- 95
            refine hX.1 5 _ rfl _ _ _ _ ?_
            refine And.intro (fun c15 => ?_) (fun c15 => ?_)
            · -- 104
              refine hX.1 6 _ rfl _ _ _ _ ?_
              refine And.intro (fun c16 => ?_) (fun c16 => ?_)
              · -- 114
                refine hX.1 7 _ rfl _ _ _ _ ?_
                refine And.intro (rg_in (rg_c (a := 63) (b := 63) (by decide +kernel)) (by decide +kernel)) ?_
                refine And.intro (fun c17 => ?_) (fun c17 => ?_)
                · -- 132
                  refine hX.1 8 _ rfl _ _ _ _ ?_
                  refine And.intro (rg_in (rg_c (a := 87) (b := 87) (by decide +kernel)) (by decide +kernel)) ?_
                  refine And.intro (fun c18 => ?_) (fun c18 => ?_)
                  · -- 154
                    refine hX.1 9 _ rfl _ _ _ _ ?_
                    exact hX.2 _ _ [] _ _ _ mW0 (b155 _ _ _ (rg_w (c := 0) (d := 8) (rg_c (a := 0) (b := 0) (by decide +kernel)) (by decide +kernel)) hI)
                  · -- on
                    exact hX.2 _ _ [] _ _ _ mW0 (b155 _ _ _ (rg_w (c := 0) (d := 8) (rg_c (a := 8) (b := 8) (by decide +kernel)) (by decide +kernel)) hI)
                · -- on
                  exact And.intro mRt_i (hK _ _ _ (rg_w (c := 0) (d := 8) (rg_c (a := 7) (b := 7) (by decide +kernel)) (by decide +kernel)) hI)
              · -- on
                exact And.intro mRt_i (hK _ _ _ (rg_w (c := 0) (d := 8) (rg_c (a := 6) (b := 6) (by decide +kernel)) (by decide +kernel)) hI)
            · -- on
              exact And.intro mRt_i (hK _ _ _ (rg_w (c := 0) (d := 8) (rg_c (a := 5) (b := 5) (by decide +kernel)) (by decide +kernel)) hI)
          · -- on
            exact And.intro mRt_i (hK _ _ _ (rg_w (c := 0) (d := 8) (rg_c (a := 4) (b := 4) (by decide +kernel)) (by decide +kernel)) hI)
        · -- on
          exact And.intro mRt_i (hK _ _ _ (rg_w (c := 0) (d := 8) (rg_c (a := 3) (b := 3) (by decide +kernel)) (by decide +kernel)) hI)
      · -- on
        exact And.intro mRt_i (hK _ _ _ (rg_w (c := 0) (d := 8) (rg_c (a := 2) (b := 2) (by decide +kernel)) (by decide +kernel)) hI)
    · -- on
      exact And.intro mRt_i (hK _ _ _ (rg_w (c := 0) (d := 8) (rg_c (a := 1) (b := 1) (by decide +kernel)) (by decide +kernel)) hI)
  · -- on
    exact And.intro mRt_i (hK _ _ _ (rg_w (c := 0) (d := 8) (rg_c (a := 0) (b := 0) (by decide +kernel)) (by decide +kernel)) hI)
def SPX2_clear (S : mSp) : Prop := ∀ (n e : Int) (f0 f : mFn) (g : mGn) (K : mKr), cI n e f0 f g → (∀ (f' : mFn) (g' : mGn), cI n e f0 f' g' → K none f' g') → S [.inr 6] f g K
set_option maxRecDepth 100000 in
set_option maxHeartbeats 4000000 in
theorem sfX2_clear : SPX2_clear spX2_clear := by
  intro n e f0 f g K   hI hK
  refine ⟨rfl, fun X hX => ?_⟩
  refine hX.1 0 _ rfl _ _ _ _ ?_
  exact And.intro mRt_v (hK _ _ (cP0 (cP0 hI (by decide +kernel)) (by decide +kernel)))
def SPX2_cycle (S : mSp) : Prop := ∀ (n e : Int) (f0 f : mFn) (g : mGn) (K : mKr), cI n e f0 f g → (∀ (f' : mFn) (g' : mGn), cI n e f0 f' g' → K none f' g') → S [.inr 6] f g K
set_option maxRecDepth 100000 in
set_option maxHeartbeats 4000000 in
theorem sfX2_cycle : SPX2_cycle spX2_cycle := by
  intro n e f0 f g K   hI hK
  refine ⟨rfl, fun X hX => ?_⟩
  have b72 : ∀ (f : mFn) (g : mGn), cI n e f0 f g → X 72 [] [] f g := by
    intro  f g  hI
    refine hX.1 2 _ rfl _ _ _ _ ?_
    exact And.intro mRt_v (hK _ _ hI)
  have b36 : ∀ (f : mFn) (g : mGn), cI n e f0 f g → X 36 [(0, .inr 6)] [] f g := by
    intro  f g  hI
    refine hX.1 1 _ rfl _ _ _ _ ?_
    refine And.intro (fun c9 => ?_) (fun c9 => ?_)
    · -- 72
      exact hX.2 _ _ [] _ _ _ mW0 (b72  _ _  hI)
    · -- on
      refine And.intro (fun c11 => ?_) (fun c11 => ?_)
      · -- 72
        exact hX.2 _ _ [] _ _ _ mW0 (b72  _ _  (cP0 hI (by decide +kernel)))
      · -- on
        refine And.intro (rg_in (rg_c (a := 63) (b := 63) (by decide +kernel)) (by decide +kernel)) ?_
        refine And.intro (rg_in (rg_c (a := 63) (b := 63) (by decide +kernel)) (by decide +kernel)) ?_
        exact hX.2 _ _ [] _ _ _ mW0 (b72  _ _  (gI_a0 (cP0 hI (by decide +kernel)) (by decide +kernel)))
  refine hX.1 0 _ rfl _ _ _ _ ?_
  refine And.intro (fun c13 => ?_) (fun c13 => ?_)
  · -- 36
    exact hX.2 _ _ [(0, .inr 6)] _ _ _ (mWc rfl mW0) (b36  _ _  hI)
  · -- on
    refine And.intro (fun c15 => ?_) (fun c15 => ?_)
    · -- 36
      exact hX.2 _ _ [(0, .inr 6)] _ _ _ (mWc rfl mW0) (b36  _ _  (cP0 hI (by decide +kernel)))
    · -- on
      refine And.intro (rg_in (rg_c (a := 63) (b := 63) (by decide +kernel)) (by decide +kernel)) ?_
      refine And.intro (rg_in (rg_c (a := 63) (b := 63) (by decide +kernel)) (by decide +kernel)) ?_
      exact hX.2 _ _ [(0, .inr 6)] _ _ _ (mWc rfl mW0) (b36  _ _  (gI_a0 (cP0 hI (by decide +kernel)) (by decide +kernel)))
def SPX3_burnPair (S : mSp) : Prop := ∀ (n e : Int) (f0 f : mFn) (g : mGn) (K : mKr) (x1 : Int32) (x2 : Int32), cI n e f0 f g → (∀ (y : Int32) (f' : mFn) (g' : mGn), rg 0 2 y → cI n e f0 f' g' → K (some (.inl y)) f' g') → S [.inr 3, .inl x1, .inl x2] f g K
-- by hand: index -2147483648..2047 of 2048 at 18
theorem sfX3_burnPair : SPX3_burnPair spX3_burnPair := by
  sorry
def SPX3_clear (S : mSp) : Prop := ∀ (n e : Int) (f0 f : mFn) (g : mGn) (K : mKr), cI n e f0 f g → (∀ (f' : mFn) (g' : mGn), cI n e f0 f' g' → K none f' g') → S [.inr 3] f g K
set_option maxRecDepth 100000 in
set_option maxHeartbeats 4000000 in
theorem sfX3_clear : SPX3_clear spX3_clear := by
  intro n e f0 f g K   hI hK
  refine ⟨rfl, fun X hX => ?_⟩
  refine hX.1 0 _ rfl _ _ _ _ ?_
  exact And.intro mRt_v (hK _ _ (cP0 (cP0 (cP0 hI (by decide +kernel)) (by decide +kernel)) (by decide +kernel)))
def SPX3_cycle (S : mSp) : Prop := ∀ (n e : Int) (f0 f : mFn) (g : mGn) (K : mKr), cI n e f0 f g → (∀ (f' : mFn) (g' : mGn), cI n e f0 f' g' → K none f' g') → S [.inr 3] f g K
set_option maxRecDepth 100000 in
set_option maxHeartbeats 4000000 in
theorem sfX3_cycle : SPX3_cycle spX3_cycle := by
  intro n e f0 f g K   hI hK
  refine ⟨rfl, fun X hX => ?_⟩
  obtain ⟨S_X3_endCommand, k_X3_endCommand, hX⟩ : ∃ S_X3_endCommand, SPX3_endCommand S_X3_endCommand ∧ mR shC fdX3_cycle [(53, 0, 0, 6, S_X3_endCommand)] bsX3_cycle (fun r f g => mRt none r ∧ K r f g) X := ⟨spX3_endCommand, sfX3_endCommand, hX⟩
  have b56 : ∀ (f : mFn) (g : mGn), cI n e f0 f g → X 56 [] [] f g := by
    intro  f g  hI
    refine hX.1 2 _ rfl _ _ _ _ ?_
    exact And.intro mRt_v (hK _ _ hI)
  have b28 : ∀ (f : mFn) (g : mGn), cI n e f0 f g → X 28 [(0, .inr 3)] [] f g := by
    intro  f g  hI
    refine hX.1 1 _ rfl _ _ _ _ ?_
    refine And.intro (fun c13 => ?_) (fun c13 => ?_)
    · -- 56
      exact hX.2 _ _ [] _ _ _ mW0 (b56  _ _  hI)
    · -- on
      refine And.intro (fun c15 => ?_) (fun c15 => ?_)
      · -- 56
        exact hX.2 _ _ [] _ _ _ mW0 (b56  _ _  (cP0 hI (by decide +kernel)))
      · -- on
        refine k_X3_endCommand n _ f0 _ _ _  (cP0 hI (by decide +kernel)) (fun f17 gf17 hI18 => ?_)
        exact hX.2 _ _ [] _ _ _ mW0 (b56  _ _  hI18)
  refine hX.1 0 _ rfl _ _ _ _ ?_
  refine And.intro (fun c19 => ?_) (fun c19 => ?_)
  · -- 28
    exact hX.2 _ _ [(0, .inr 3)] _ _ _ (mWc rfl mW0) (b28  _ _  hI)
  · -- on
    refine And.intro (fun c21 => ?_) (fun c21 => ?_)
    · -- 28
      exact hX.2 _ _ [(0, .inr 3)] _ _ _ (mWc rfl mW0) (b28  _ _  (cP0 hI (by decide +kernel)))
    · -- on
      refine k_X3_endCommand n _ f0 _ _ _  (cP0 hI (by decide +kernel)) (fun f23 gf23 hI24 => ?_)
      exact hX.2 _ _ [(0, .inr 3)] _ _ _ (mWc rfl mW0) (b28  _ _  hI24)
def SPX4_clear (S : mSp) : Prop := ∀ (n e : Int) (f0 f : mFn) (g : mGn) (K : mKr), cI n e f0 f g → (∀ (f' : mFn) (g' : mGn), cI n e f0 f' g' → K none f' g') → S [.inr 5] f g K
-- by hand: writes counted scalar 327
theorem sfX4_clear : SPX4_clear spX4_clear := by
  sorry
def SPX4_comeOn (S : mSp) : Prop := ∀ (n e : Int) (f0 f : mFn) (g : mGn) (K : mKr), cI n e f0 f g → (∀ (f' : mFn) (g' : mGn), cI n e f0 f' g' → K none f' g') → S [.inr 5] f g K
set_option maxRecDepth 100000 in
set_option maxHeartbeats 4000000 in
theorem sfX4_comeOn : SPX4_comeOn spX4_comeOn := by
  intro n e f0 f g K   hI hK
  refine ⟨rfl, fun X hX => ?_⟩
  have b31 : ∀ (f : mFn) (g : mGn), cI n e f0 f g → X 31 [] [] f g := by
    intro  f g  hI
    refine hX.1 1 _ rfl _ _ _ _ ?_
    exact And.intro mRt_v (hK _ _ hI)
  have b80 : ∀ (f : mFn) (g : mGn), cI n e f0 f g → X 80 [(0, .inr 5)] [] f g := by
    intro  f g  hI
    refine hX.1 5 _ rfl _ _ _ _ ?_
    refine And.intro (rg_in (rg_c (a := 192) (b := 192) (by decide +kernel)) (by decide +kernel)) ?_
    refine And.intro (rg_in (rg_c (a := 192) (b := 192) (by decide +kernel)) (by decide +kernel)) ?_
    exact And.intro mRt_v (hK _ _ (gI_a0 (cP0 hI (by decide +kernel)) (by decide +kernel)))
  refine hX.1 0 _ rfl _ _ _ _ ?_
  refine And.intro (fun c14 => ?_) (fun c14 => ?_)
  · -- 31
    exact hX.2 _ _ [] _ _ _ mW0 (b31  _ _  (cP0 hI (by decide +kernel)))
  · -- on
    refine And.intro (rg_in (rg_c (a := 193) (b := 193) (by decide +kernel)) (by decide +kernel)) ?_
    refine And.intro (fun c15 => ?_) (fun c15 => ?_)
    · -- 32
      refine hX.1 2 _ rfl _ _ _ _ ?_
      refine And.intro (fun c16 => ?_) (fun c16 => ?_)
      · -- 54
        refine hX.1 3 _ rfl _ _ _ _ ?_
        refine And.intro (fun c17 => ?_) (fun c17 => ?_)
        · -- 72
          refine hX.1 4 _ rfl _ _ _ _ ?_
          exact hX.2 _ _ [(0, .inr 5)] _ _ _ (mWc rfl mW0) (b80  _ _  (cP0 (cP0 hI (by decide +kernel)) (by decide +kernel)))
        · -- on
          exact hX.2 _ _ [(0, .inr 5)] _ _ _ (mWc rfl mW0) (b80  _ _  (cP0 (cP0 hI (by decide +kernel)) (by decide +kernel)))
      · -- on
        refine And.intro (rg_in (rg_c (a := 192) (b := 192) (by decide +kernel)) (by decide +kernel)) ?_
        refine And.intro (rg_in (rg_c (a := 192) (b := 192) (by decide +kernel)) (by decide +kernel)) ?_
        exact And.intro mRt_v (hK _ _ (gI_a0 (cP0 hI (by decide +kernel)) (by decide +kernel)))
    · -- on
      exact hX.2 _ _ [] _ _ _ mW0 (b31  _ _  (cP0 hI (by decide +kernel)))
def SPX4_sendOn (S : mSp) : Prop := ∀ (n e : Int) (f0 f : mFn) (g : mGn) (K : mKr), cI n e f0 f g → (∀ (f' : mFn) (g' : mGn), cI n e f0 f' g' → K none f' g') → S [.inr 5] f g K
-- by hand: writes counted scalar 329
theorem sfX4_sendOn : SPX4_sendOn spX4_sendOn := by
  sorry
def SPX4_frame (S : mSp) : Prop := ∀ (n e : Int) (f0 f : mFn) (g : mGn) (K : mKr), cI n e f0 f g → (∀ (y : Int32) (f' : mFn) (g' : mGn), cI n e f0 f' g' → K (some (.inl y)) f' g') → S [.inr 5] f g K
set_option maxRecDepth 100000 in
set_option maxHeartbeats 4000000 in
theorem sfX4_frame : SPX4_frame spX4_frame := by
  intro n e f0 f g K   hI hK
  refine ⟨rfl, fun X hX => ?_⟩
  have b48 : ∀ (s0 : Int32) (s1 : Int32) (f : mFn) (g : mGn), rg 80 160 s1 → cI n e f0 f g → X 48 [] [.inl s1, .inl s0] f g := by
    intro s0 s1 f g hs1 hI
    refine hX.1 2 _ rfl _ _ _ _ ?_
    exact And.intro mRt_i (hK _ _ _ hI)
  refine hX.1 0 _ rfl _ _ _ _ ?_
  refine And.intro (rg_in (rg_c (a := 197) (b := 197) (by decide +kernel)) (by decide +kernel)) ?_
  refine And.intro (rg_in (rg_c (a := 196) (b := 196) (by decide +kernel)) (by decide +kernel)) ?_
  refine And.intro (rg_in (rg_c (a := 192) (b := 192) (by decide +kernel)) (by decide +kernel)) ?_
  refine And.intro (fun c2 => ?_) (fun c2 => ?_)
  · -- 45
    refine hX.1 1 _ rfl _ _ _ _ ?_
    exact hX.2 _ _ [] _ _ _ mW0 (b48 _ _ _ _ (rg_w (c := 80) (d := 160) (rg_c (a := 160) (b := 160) (by decide +kernel)) (by decide +kernel)) hI)
  · -- on
    exact hX.2 _ _ [] _ _ _ mW0 (b48 _ _ _ _ (rg_w (c := 80) (d := 160) (rg_c (a := 80) (b := 80) (by decide +kernel)) (by decide +kernel)) hI)
def SPX4_cycle (S : mSp) : Prop := ∀ (n e : Int) (f0 f : mFn) (g : mGn) (K : mKr), cI n e f0 f g → (∀ (f' : mFn) (g' : mGn), cI n e f0 f' g' → K none f' g') → S [.inr 5] f g K
-- by hand: writes counted scalar 329
theorem sfX4_cycle : SPX4_cycle spX4_cycle := by
  sorry
def SPX4_firstReceived (S : mSp) : Prop := ∀ (n e : Int) (f0 f : mFn) (g : mGn) (K : mKr), cI n e f0 f g → (∀ (y : Int32) (f' : mFn) (g' : mGn), cI n e f0 f' g' → K (some (.inl y)) f' g') → S [.inr 5] f g K
set_option maxRecDepth 100000 in
set_option maxHeartbeats 4000000 in
theorem sfX4_firstReceived : SPX4_firstReceived spX4_firstReceived := by
  intro n e f0 f g K   hI hK
  refine ⟨rfl, fun X hX => ?_⟩
  have b15 : ∀ (s0 : Int32) (f : mFn) (g : mGn), cI n e f0 f g → X 15 [] [.inl s0] f g := by
    intro s0 f g  hI
    refine hX.1 2 _ rfl _ _ _ _ ?_
    exact And.intro mRt_i (hK _ _ _ hI)
  refine hX.1 0 _ rfl _ _ _ _ ?_
  refine And.intro (fun c2 => ?_) (fun c2 => ?_)
  · -- 14
    refine hX.1 1 _ rfl _ _ _ _ ?_
    exact hX.2 _ _ [] _ _ _ mW0 (b15 _ _ _  hI)
  · -- on
    exact hX.2 _ _ [] _ _ _ mW0 (b15 _ _ _  hI)
def SPX4_queue (S : mSp) : Prop := ∀ (n e : Int) (f0 f : mFn) (g : mGn) (K : mKr) (x1 : Int32), rg 0 255 x1 → cI n e f0 f g → (∀ (y : Int32) (f' : mFn) (g' : mGn), rg (-1) 300 y → cI n e f0 f' g' → K (some (.inl y)) f' g') → S [.inr 5, .inl x1] f g K
set_option maxRecDepth 100000 in
set_option maxHeartbeats 4000000 in
theorem sfX4_queue : SPX4_queue spX4_queue := by
  intro n e f0 f g K x1 hx1 hI hK
  refine ⟨rfl, fun X hX => ?_⟩
  refine hX.1 0 _ rfl _ _ _ _ ?_
  refine And.intro (fun c4 => ?_) (fun c4 => ?_)
  · -- 12
    refine hX.1 1 _ rfl _ _ _ _ ?_
    refine And.intro (by decide +kernel) ?_
    refine And.intro (rg_in (show rg 0 299 _ from (rg_rem (show rg 0 598 _ from (rg_add (gI_s hI 1 322 0 299 rfl) (show rg 0 299 _ from (rg_lt (gI_s hI 2 323 0 300 rfl) (rg_c (a := 300) (b := 300) (by decide +kernel)) c4 (by decide +kernel))) (by decide +kernel))) (rg_c (a := 300) (b := 300) (by decide +kernel)) (by decide +kernel))) (by decide +kernel)) ?_
    exact And.intro mRt_i (hK _ _ _ (rg_w (c := (-1)) (d := 300) (gI_s (cP1 2 (rg_w (c := 0) (d := 300) (show rg 1 300 _ from (rg_add (show rg 0 299 _ from (rg_lt (gI_s hI 2 323 0 300 rfl) (rg_c (a := 300) (b := 300) (by decide +kernel)) c4 (by decide +kernel))) (rg_c (a := 1) (b := 1) (by decide +kernel)) (by decide +kernel))) (by decide +kernel)) hI (by decide +kernel)) 2 323 0 300 rfl) (by decide +kernel)) (cP1 2 (rg_w (c := 0) (d := 300) (show rg 1 300 _ from (rg_add (show rg 0 299 _ from (rg_lt (gI_s hI 2 323 0 300 rfl) (rg_c (a := 300) (b := 300) (by decide +kernel)) c4 (by decide +kernel))) (rg_c (a := 1) (b := 1) (by decide +kernel)) (by decide +kernel))) (by decide +kernel)) (gI_a0 hI (by decide +kernel)) (by decide +kernel)))
  · -- on
    exact And.intro mRt_i (hK _ _ _ (rg_w (c := (-1)) (d := 300) (rg_c (a := (-1)) (b := (-1)) (by decide +kernel)) (by decide +kernel)) hI)
def SPX7_clear (S : mSp) : Prop := ∀ (n e : Int) (f0 f : mFn) (g : mGn) (K : mKr), cI n e f0 f g → (∀ (f' : mFn) (g' : mGn), cI n e f0 f' g' → K none f' g') → S [.inr 7] f g K
set_option maxRecDepth 100000 in
set_option maxHeartbeats 4000000 in
theorem sfX7_clear : SPX7_clear spX7_clear := by
  intro n e f0 f g K   hI hK
  refine ⟨rfl, fun X hX => ?_⟩
  refine hX.1 0 _ rfl _ _ _ _ ?_
  refine And.intro (rg_in (rg_c (a := 84) (b := 84) (by decide +kernel)) (by decide +kernel)) ?_
  refine And.intro (rg_in (rg_c (a := 96) (b := 96) (by decide +kernel)) (by decide +kernel)) ?_
  exact And.intro mRt_v (hK _ _ (gI_a0 (cP0 (cP0 hI (by decide +kernel)) (by decide +kernel)) (by decide +kernel)))
def SPX5_clear (S : mSp) : Prop := ∀ (n e : Int) (f0 f : mFn) (g : mGn) (K : mKr) (x1 : Int32), rg 1 8 x1 → cI n e f0 f g → (∀ (f' : mFn) (g' : mGn), cI n e f0 f' g' → K none f' g') → S [.inr 1, .inl x1] f g K
-- by hand: fill
theorem sfX5_clear : SPX5_clear spX5_clear := by
  sorry
def SPX6_ticks (S : mSp) : Prop := ∀ (n e : Int) (f0 f : mFn) (g : mGn) (K : mKr) (x1 : Int32), rg 0 7 x1 → cI n e f0 f g → (∀ (y : Int32) (f' : mFn) (g' : mGn), rg 0 1 y → cI n e f0 f' g' → K (some (.inl y)) f' g') → S [.inr 4, .inl x1] f g K
set_option maxRecDepth 100000 in
set_option maxHeartbeats 4000000 in
theorem sfX6_ticks : SPX6_ticks spX6_ticks := by
  intro n e f0 f g K x1 hx1 hI hK
  refine ⟨rfl, fun X hX => ?_⟩
  have b53 : ∀ (s0 : Int32) (f : mFn) (g : mGn), rg 0 1 s0 → cI n e f0 f g → X 53 [] [.inl s0] f g := by
    intro s0 f g hs0 hI
    refine hX.1 4 _ rfl _ _ _ _ ?_
    exact And.intro (mRt_z (rg_01 hs0 (by decide +kernel))) (hK _ _ _ (rg_w (c := 0) (d := 1) hs0 (by decide +kernel)) hI)
  have b69 : ∀ (s0 : Int32) (f : mFn) (g : mGn), rg 0 1 s0 → cI n e f0 f g → X 69 [] [.inl s0] f g := by
    intro s0 f g hs0 hI
    refine hX.1 7 _ rfl _ _ _ _ ?_
    exact And.intro (mRt_z (rg_01 hs0 (by decide +kernel))) (hK _ _ _ (rg_w (c := 0) (d := 1) hs0 (by decide +kernel)) hI)
  have b86 : ∀ (s0 : Int32) (f : mFn) (g : mGn), rg 0 1 s0 → cI n e f0 f g → X 86 [] [.inl s0] f g := by
    intro s0 f g hs0 hI
    refine hX.1 10 _ rfl _ _ _ _ ?_
    exact And.intro (mRt_z (rg_01 hs0 (by decide +kernel))) (hK _ _ _ (rg_w (c := 0) (d := 1) hs0 (by decide +kernel)) hI)
  have b99 : ∀ (s0 : Int32) (f : mFn) (g : mGn), rg 0 1 s0 → cI n e f0 f g → X 99 [] [.inl s0] f g := by
    intro s0 f g hs0 hI
    refine hX.1 13 _ rfl _ _ _ _ ?_
    exact And.intro (mRt_z (rg_01 hs0 (by decide +kernel))) (hK _ _ _ (rg_w (c := 0) (d := 1) hs0 (by decide +kernel)) hI)
  refine hX.1 0 _ rfl _ _ _ _ ?_
  refine And.intro (fun c10 => ?_) (fun c10 => ?_)
  · -- 36
    refine hX.1 1 _ rfl _ _ _ _ ?_
    exact And.intro (mRt_z (rg_01 (rg_c (a := 1) (b := 1) (by decide +kernel)) (by decide +kernel))) (hK _ _ _ (rg_w (c := 0) (d := 1) (rg_c (a := 1) (b := 1) (by decide +kernel)) (by decide +kernel)) hI)
  · -- on
    refine And.intro (fun c11 => ?_) (fun c11 => ?_)
    · -- 38
      refine hX.1 2 _ rfl _ _ _ _ ?_
      refine And.intro (fun c12 => ?_) (fun c12 => ?_)
      · -- 52
        refine hX.1 3 _ rfl _ _ _ _ ?_
        exact hX.2 _ _ [] _ _ _ mW0 (b53 _ _ _ (rg_w (c := 0) (d := 1) (rg_c (a := 0) (b := 0) (by decide +kernel)) (by decide +kernel)) hI)
      · -- on
        exact hX.2 _ _ [] _ _ _ mW0 (b53 _ _ _ (rg_w (c := 0) (d := 1) (rg_c (a := 1) (b := 1) (by decide +kernel)) (by decide +kernel)) hI)
    · -- on
      refine And.intro (fun c13 => ?_) (fun c13 => ?_)
      · -- 54
        refine hX.1 5 _ rfl _ _ _ _ ?_
        refine And.intro (fun c14 => ?_) (fun c14 => ?_)
        · -- 68
          refine hX.1 6 _ rfl _ _ _ _ ?_
          exact hX.2 _ _ [] _ _ _ mW0 (b69 _ _ _ (rg_w (c := 0) (d := 1) (rg_c (a := 0) (b := 0) (by decide +kernel)) (by decide +kernel)) hI)
        · -- on
          exact hX.2 _ _ [] _ _ _ mW0 (b69 _ _ _ (rg_w (c := 0) (d := 1) (rg_c (a := 1) (b := 1) (by decide +kernel)) (by decide +kernel)) hI)
      · -- on
        refine And.intro (fun c15 => ?_) (fun c15 => ?_)
        · -- 70
          refine hX.1 8 _ rfl _ _ _ _ ?_
          refine And.intro (fun c16 => ?_) (fun c16 => ?_)
          · -- 85
            refine hX.1 9 _ rfl _ _ _ _ ?_
            exact hX.2 _ _ [] _ _ _ mW0 (b86 _ _ _ (rg_w (c := 0) (d := 1) (rg_c (a := 0) (b := 0) (by decide +kernel)) (by decide +kernel)) hI)
          · -- on
            exact hX.2 _ _ [] _ _ _ mW0 (b86 _ _ _ (rg_w (c := 0) (d := 1) (rg_c (a := 1) (b := 1) (by decide +kernel)) (by decide +kernel)) hI)
        · -- on
          refine And.intro (fun c17 => ?_) (fun c17 => ?_)
          · -- 87
            refine hX.1 11 _ rfl _ _ _ _ ?_
            refine And.intro (fun c18 => ?_) (fun c18 => ?_)
            · -- 98
              refine hX.1 12 _ rfl _ _ _ _ ?_
              exact hX.2 _ _ [] _ _ _ mW0 (b99 _ _ _ (rg_w (c := 0) (d := 1) (rg_c (a := 0) (b := 0) (by decide +kernel)) (by decide +kernel)) hI)
            · -- on
              exact hX.2 _ _ [] _ _ _ mW0 (b99 _ _ _ (rg_w (c := 0) (d := 1) (rg_c (a := 1) (b := 1) (by decide +kernel)) (by decide +kernel)) hI)
          · -- on
            refine hX.1 14 _ rfl _ _ _ _ ?_
            exact And.intro (mRt_z (rg_01 (rg_c (a := 0) (b := 0) (by decide +kernel)) (by decide +kernel))) (hK _ _ _ (rg_w (c := 0) (d := 1) (rg_c (a := 0) (b := 0) (by decide +kernel)) (by decide +kernel)) hI)
def SPX6_tick (S : mSp) : Prop := ∀ (n e : Int) (f0 f : mFn) (g : mGn) (K : mKr), cI n e f0 f g → (∀ (f' : mFn) (g' : mGn), cI n e f0 f' g' → K none f' g') → S [.inr 4] f g K
set_option maxRecDepth 100000 in
set_option maxHeartbeats 4000000 in
theorem sfX6_tick : SPX6_tick spX6_tick := by
  intro n e f0 f g K   hI hK
  refine ⟨rfl, fun X hX => ?_⟩
  have b89 : ∀ (f : mFn) (g : mGn), cI n e f0 f g → X 89 [] [] f g := by
    intro  f g  hI
    refine hX.1 3 _ rfl _ _ _ _ ?_
    exact And.intro mRt_v (hK _ _ hI)
  have b59 : ∀ (a1 : Int32) (f : mFn) (g : mGn), rg 0 255 a1 → cI n e f0 f g → X 59 [(0, .inr 4), (1, .inl a1)] [] f g := by
    intro a1 f g ha1 hI
    refine hX.1 2 _ rfl _ _ _ _ ?_
    refine And.intro (rg_in (rg_c (a := 70) (b := 70) (by decide +kernel)) (by decide +kernel)) ?_
    refine And.intro (rg_in (rg_c (a := 71) (b := 71) (by decide +kernel)) (by decide +kernel)) ?_
    refine And.intro (fun c9 => ?_) (fun c9 => ?_)
    · -- 89
      exact hX.2 _ _ [] _ _ _ mW0 (b89  _ _  (gI_a0 hI (by decide +kernel)))
    · -- on
      refine And.intro (rg_in (rg_c (a := 53) (b := 53) (by decide +kernel)) (by decide +kernel)) ?_
      refine And.intro (rg_in (rg_c (a := 53) (b := 53) (by decide +kernel)) (by decide +kernel)) ?_
      exact hX.2 _ _ [] _ _ _ mW0 (b89  _ _  (gI_a0 (gI_a0 hI (by decide +kernel)) (by decide +kernel)))
  have b36 : ∀ (a1 : Int32) (f : mFn) (g : mGn), cI n e f0 f g → X 36 [(0, .inr 4), (1, .inl a1)] [] f g := by
    intro a1 f g  hI
    refine hX.1 1 _ rfl _ _ _ _ ?_
    refine And.intro (fun c11 => ?_) (fun c11 => ?_)
    · -- 59
      exact hX.2 _ _ [(0, .inr 4), (1, .inl _)] _ _ _ (mWc rfl (mWc rfl mW0)) (b59 _ _ _ (rg_w (c := 0) (d := 255) (show rg 0 255 _ from (rg_andR (rg_c (a := 255) (b := 255) (by decide +kernel)) (by decide +kernel))) (by decide +kernel)) hI)
    · -- on
      refine And.intro (rg_in (rg_c (a := 53) (b := 53) (by decide +kernel)) (by decide +kernel)) ?_
      refine And.intro (rg_in (rg_c (a := 53) (b := 53) (by decide +kernel)) (by decide +kernel)) ?_
      exact hX.2 _ _ [(0, .inr 4), (1, .inl _)] _ _ _ (mWc rfl (mWc rfl mW0)) (b59 _ _ _ (rg_w (c := 0) (d := 255) (show rg 0 255 _ from (rg_andR (rg_c (a := 255) (b := 255) (by decide +kernel)) (by decide +kernel))) (by decide +kernel)) (gI_a0 hI (by decide +kernel)))
  refine hX.1 0 _ rfl _ _ _ _ ?_
  refine And.intro (rg_in (rg_c (a := 70) (b := 70) (by decide +kernel)) (by decide +kernel)) ?_
  refine And.intro (rg_in (rg_c (a := 68) (b := 68) (by decide +kernel)) (by decide +kernel)) ?_
  refine And.intro (fun c13 => ?_) (fun c13 => ?_)
  · -- 36
    exact hX.2 _ _ [(0, .inr 4), (1, .inl _)] _ _ _ (mWc rfl (mWc rfl mW0)) (b36 _ _ _  hI)
  · -- on
    refine And.intro (rg_in (rg_c (a := 71) (b := 71) (by decide +kernel)) (by decide +kernel)) ?_
    refine And.intro (fun c14 => ?_) (fun c14 => ?_)
    · -- 36
      exact hX.2 _ _ [(0, .inr 4), (1, .inl _)] _ _ _ (mWc rfl (mWc rfl mW0)) (b36 _ _ _  hI)
    · -- on
      exact hX.2 _ _ [(0, .inr 4), (1, .inl _)] _ _ _ (mWc rfl (mWc rfl mW0)) (b59 _ _ _ (rg_w (c := 0) (d := 255) (rg_c (a := 0) (b := 0) (by decide +kernel)) (by decide +kernel)) hI)
def SPX6_cycle (S : mSp) : Prop := ∀ (n e : Int) (f0 f : mFn) (g : mGn) (K : mKr), cI n e f0 f g → (∀ (f' : mFn) (g' : mGn), cI n e f0 f' g' → K none f' g') → S [.inr 4] f g K
set_option maxRecDepth 100000 in
set_option maxHeartbeats 4000000 in
theorem sfX6_cycle : SPX6_cycle spX6_cycle := by
  intro n e f0 f g K   hI hK
  refine ⟨rfl, fun X hX => ?_⟩
  obtain ⟨S_X6_ticks, k_X6_ticks, S_X6_tick, k_X6_tick, hX⟩ : ∃ S_X6_ticks, SPX6_ticks S_X6_ticks ∧ ∃ S_X6_tick, SPX6_tick S_X6_tick ∧ mR shC fdX6_cycle [(19, 0, 1, 9, S_X6_ticks), (23, 0, 0, 9, S_X6_tick)] bsX6_cycle (fun r f g => mRt none r ∧ K r f g) X := ⟨spX6_ticks, sfX6_ticks, spX6_tick, sfX6_tick, hX⟩
  have b41 : ∀ (f : mFn) (g : mGn), cI n e f0 f g → X 41 [] [] f g := by
    intro  f g  hI
    refine hX.1 1 _ rfl _ _ _ _ ?_
    exact And.intro mRt_v (hK _ _ hI)
  refine hX.1 0 _ rfl _ _ _ _ ?_
  refine And.intro (rg_in (rg_c (a := 69) (b := 69) (by decide +kernel)) (by decide +kernel)) ?_
  refine And.intro (fun c11 => ?_) (fun c11 => ?_)
  · -- 41
    exact hX.2 _ _ [] _ _ _ mW0 (b41  _ _  (cP0 hI (by decide +kernel)))
  · -- on
    refine k_X6_ticks n _ f0 _ _ _ _ (rg_w (c := 0) (d := 7) (show rg 0 7 _ from (rg_andR (rg_c (a := 7) (b := 7) (by decide +kernel)) (by decide +kernel))) (by decide +kernel)) (cP0 hI (by decide +kernel)) (fun y12 f13 gf13 hy12 hI14 => ?_)
    refine And.intro (fun c15 => ?_) (fun c15 => ?_)
    · -- 41
      exact hX.2 _ _ [] _ _ _ mW0 (b41  _ _  hI14)
    · -- on
      refine k_X6_tick n _ f0 _ _ _  hI14 (fun f17 gf17 hI18 => ?_)
      exact hX.2 _ _ [] _ _ _ mW0 (b41  _ _  hI18)
def SPX7_limit (S : mSp) : Prop := ∀ (n e : Int) (f0 f : mFn) (g : mGn) (K : mKr) (x0 : Int32), cI n e f0 f g → (∀ (y : Int32) (f' : mFn) (g' : mGn), rg 0 134217728 y → cI n e f0 f' g' → K (some (.inl y)) f' g') → S [.inl x0] f g K
set_option maxRecDepth 100000 in
set_option maxHeartbeats 4000000 in
theorem sfX7_limit : SPX7_limit spX7_limit := by
  intro n e f0 f g K x0  hI hK
  refine ⟨rfl, fun X hX => ?_⟩
  have b27 : ∀ (s0 : Int32) (s1 : Int32) (f : mFn) (g : mGn), rg 4096 4096 s0 → rg 0 15 s1 → cI n e f0 f g → X 27 [] [.inl s1, .inl s0] f g := by
    intro s0 s1 f g hs0 hs1 hI
    refine hX.1 2 _ rfl _ _ _ _ ?_
    exact And.intro mRt_i (hK _ _ _ (rg_w (c := 0) (d := 134217728) (show rg 0 134217728 _ from (rg_shlV 15 hs0 hs1 (by decide +kernel))) (by decide +kernel)) hI)
  refine hX.1 0 _ rfl _ _ _ _ ?_
  refine And.intro (fun c2 => ?_) (fun c2 => ?_)
  · -- 25
    refine hX.1 1 _ rfl _ _ _ _ ?_
    exact hX.2 _ _ [] _ _ _ mW0 (b27 _ _ _ _ (rg_w (c := 4096) (d := 4096) (rg_c (a := 4096) (b := 4096) (by decide +kernel)) (by decide +kernel)) (rg_w (c := 0) (d := 15) (rg_c (a := 11) (b := 11) (by decide +kernel)) (by decide +kernel)) hI)
  · -- on
    exact hX.2 _ _ [] _ _ _ mW0 (b27 _ _ _ _ (rg_w (c := 4096) (d := 4096) (rg_c (a := 4096) (b := 4096) (by decide +kernel)) (by decide +kernel)) (rg_w (c := 0) (d := 15) (show rg 0 15 _ from (rg_or (k := 4) (show rg 0 8 _ from (rg_andR (rg_c (a := 8) (b := 8) (by decide +kernel)) (by decide +kernel))) (show rg 0 7 _ from (rg_andR (rg_c (a := 7) (b := 7) (by decide +kernel)) (by decide +kernel))) (by decide +kernel))) (by decide +kernel)) hI)
def SPX7_cycle (S : mSp) : Prop := ∀ (n e : Int) (f0 f : mFn) (g : mGn) (K : mKr), cI n e f0 f g → (∀ (y : Int32) (f' : mFn) (g' : mGn), rg 0 1 y → cI n e f0 f' g' → K (some (.inl y)) f' g') → S [.inr 7] f g K
set_option maxRecDepth 100000 in
set_option maxHeartbeats 4000000 in
theorem sfX7_cycle : SPX7_cycle spX7_cycle := by
  intro n e f0 f g K   hI hK
  refine ⟨rfl, fun X hX => ?_⟩
  obtain ⟨S_X7_limit, k_X7_limit, hX⟩ : ∃ S_X7_limit, SPX7_limit S_X7_limit ∧ mR shC fdX7_cycle [(22, 1, 1, 0, S_X7_limit)] bsX7_cycle (fun r f g => mRt (some .boolean) r ∧ K r f g) X := ⟨spX7_limit, sfX7_limit, hX⟩
  have b36 : ∀ (f : mFn) (g : mGn), cI n e f0 f g → X 36 [(0, .inr 7)] [] f g := by
    intro  f g  hI
    refine hX.1 1 _ rfl _ _ _ _ ?_
    refine And.intro (rg_in (rg_c (a := 96) (b := 96) (by decide +kernel)) (by decide +kernel)) ?_
    refine And.intro (fun c15 => ?_) (fun c15 => ?_)
    · -- 58
      refine hX.1 2 _ rfl _ _ _ _ ?_
      refine k_X7_limit n _ f0 _ _ _ _  (cP0 hI (by decide +kernel)) (fun y17 f18 gf18 hy17 hI19 => ?_)
      refine And.intro (fun c20 => ?_) (fun c20 => ?_)
      · -- 81
        refine hX.1 3 _ rfl _ _ _ _ ?_
        refine And.intro (fun c22 => ?_) (fun c22 => ?_)
        · -- 95
          refine hX.1 4 _ rfl _ _ _ _ ?_
          refine And.intro (rg_in (rg_c (a := 96) (b := 96) (by decide +kernel)) (by decide +kernel)) ?_
          exact And.intro (mRt_z (rg_01 (rg_c (a := 0) (b := 0) (by decide +kernel)) (by decide +kernel))) (hK _ _ _ (rg_w (c := 0) (d := 1) (rg_c (a := 0) (b := 0) (by decide +kernel)) (by decide +kernel)) (gI_a0 (cP0 hI19 (by decide +kernel)) (by decide +kernel)))
        · -- on
          exact And.intro (mRt_z (rg_01 (rg_c (a := 1) (b := 1) (by decide +kernel)) (by decide +kernel))) (hK _ _ _ (rg_w (c := 0) (d := 1) (rg_c (a := 1) (b := 1) (by decide +kernel)) (by decide +kernel)) (cP0 hI19 (by decide +kernel)))
      · -- on
        exact And.intro (mRt_z (rg_01 (rg_c (a := 0) (b := 0) (by decide +kernel)) (by decide +kernel))) (hK _ _ _ (rg_w (c := 0) (d := 1) (rg_c (a := 0) (b := 0) (by decide +kernel)) (by decide +kernel)) hI19)
    · -- on
      exact And.intro (mRt_z (rg_01 (rg_c (a := 0) (b := 0) (by decide +kernel)) (by decide +kernel))) (hK _ _ _ (rg_w (c := 0) (d := 1) (rg_c (a := 0) (b := 0) (by decide +kernel)) (by decide +kernel)) (cP0 hI (by decide +kernel)))
  refine hX.1 0 _ rfl _ _ _ _ ?_
  refine And.intro (fun c25 => ?_) (fun c25 => ?_)
  · -- 36
    exact hX.2 _ _ [(0, .inr 7)] _ _ _ (mWc rfl mW0) (b36  _ _  hI)
  · -- on
    refine And.intro (fun c27 => ?_) (fun c27 => ?_)
    · -- 36
      exact hX.2 _ _ [(0, .inr 7)] _ _ _ (mWc rfl mW0) (b36  _ _  (cP0 hI (by decide +kernel)))
    · -- on
      refine And.intro (rg_in (rg_c (a := 96) (b := 96) (by decide +kernel)) (by decide +kernel)) ?_
      refine And.intro (rg_in (rg_c (a := 96) (b := 96) (by decide +kernel)) (by decide +kernel)) ?_
      exact hX.2 _ _ [(0, .inr 7)] _ _ _ (mWc rfl mW0) (b36  _ _  (gI_a0 (cP0 hI (by decide +kernel)) (by decide +kernel)))
def SPX5_cycle (S : mSp) : Prop := ∀ (n e : Int) (f0 f : mFn) (g : mGn) (K : mKr), cI n e f0 f g → (∀ (y : Int32) (f' : mFn) (g' : mGn), rg 0 1 y → cI n e f0 f' g' → K (some (.inl y)) f' g') → S [.inr 1] f g K
set_option maxRecDepth 100000 in
set_option maxHeartbeats 4000000 in
theorem sfX5_cycle : SPX5_cycle spX5_cycle := by
  intro n e f0 f g K   hI hK
  refine ⟨rfl, fun X hX => ?_⟩
  obtain ⟨S_X3_cycle, k_X3_cycle, S_X6_cycle, k_X6_cycle, S_X4_cycle, k_X4_cycle, S_X2_cycle, k_X2_cycle, S_X7_cycle, k_X7_cycle, hX⟩ : ∃ S_X3_cycle, SPX3_cycle S_X3_cycle ∧ ∃ S_X6_cycle, SPX6_cycle S_X6_cycle ∧ ∃ S_X4_cycle, SPX4_cycle S_X4_cycle ∧ ∃ S_X2_cycle, SPX2_cycle S_X2_cycle ∧ ∃ S_X7_cycle, SPX7_cycle S_X7_cycle ∧ mR shC fdX5_cycle [(74, 0, 0, 6, S_X3_cycle), (77, 0, 0, 9, S_X6_cycle), (78, 0, 0, 7, S_X4_cycle), (79, 0, 0, 5, S_X2_cycle), (80, 0, 0, 10, S_X7_cycle)] bsX5_cycle (fun r f g => mRt (some .boolean) r ∧ K r f g) X := ⟨spX3_cycle, sfX3_cycle, spX6_cycle, sfX6_cycle, spX4_cycle, sfX4_cycle, spX2_cycle, sfX2_cycle, spX7_cycle, sfX7_cycle, hX⟩
  have b43 : ∀ (f : mFn) (g : mGn), cI n e f0 f g → X 43 [(0, .inr 1)] [] f g := by
    intro  f g  hI
    refine hX.1 1 _ rfl _ _ _ _ ?_
    refine k_X6_cycle n _ f0 _ _ _  hI (fun f21 gf21 hI22 => ?_)
    refine k_X4_cycle n _ f0 _ _ _  hI22 (fun f24 gf24 hI25 => ?_)
    refine k_X2_cycle n _ f0 _ _ _  hI25 (fun f27 gf27 hI28 => ?_)
    refine k_X7_cycle n _ f0 _ _ _  hI28 (fun y29 f30 gf30 hy29 hI31 => ?_)
    exact And.intro (mRt_z (rg_01 hy29 (by decide +kernel))) (hK _ _ _ (rg_w (c := 0) (d := 1) hy29 (by decide +kernel)) hI31)
  refine hX.1 0 _ rfl _ _ _ _ ?_
  refine k_X3_cycle n _ f0 _ _ _  hI (fun f33 gf33 hI34 => ?_)
  refine And.intro (fun c35 => ?_) (fun c35 => ?_)
  · -- 43
    exact hX.2 _ _ [(0, .inr 1)] _ _ _ (mWc rfl mW0) (b43  _ _  hI34)
  · -- on
    refine And.intro (fun c37 => ?_) (fun c37 => ?_)
    · -- 43
      exact hX.2 _ _ [(0, .inr 1)] _ _ _ (mWc rfl mW0) (b43  _ _  (cP0 hI34 (by decide +kernel)))
    · -- on
      refine And.intro (rg_in (rg_c (a := 85) (b := 85) (by decide +kernel)) (by decide +kernel)) ?_
      refine And.intro (rg_in (rg_c (a := 85) (b := 85) (by decide +kernel)) (by decide +kernel)) ?_
      exact hX.2 _ _ [(0, .inr 1)] _ _ _ (mWc rfl mW0) (b43  _ _  (gI_a0 (cP0 hI34 (by decide +kernel)) (by decide +kernel)))
def SPX8_about (S : mSp) : Prop := ∀ (n e : Int) (f0 f : mFn) (g : mGn) (K : mKr) (x1 : Int32), cI n e f0 f g → (∀ (y : Int32) (f' : mFn) (g' : mGn), cI n e f0 f' g' → K (some (.inl y)) f' g') → S [.inr 0, .inl x1] f g K
-- by hand: jump out
theorem sfX8_about : SPX8_about spX8_about := by
  sorry
def SPX8_inFlash (S : mSp) : Prop := ∀ (n e : Int) (f0 f : mFn) (g : mGn) (K : mKr) (x0 : Int32), cI n e f0 f g → (∀ (y : Int32) (f' : mFn) (g' : mGn), rg 0 1 y → cI n e f0 f' g' → K (some (.inl y)) f' g') → S [.inl x0] f g K
set_option maxRecDepth 100000 in
set_option maxHeartbeats 4000000 in
theorem sfX8_inFlash : SPX8_inFlash spX8_inFlash := by
  intro n e f0 f g K x0  hI hK
  refine ⟨rfl, fun X hX => ?_⟩
  have b16 : ∀ (s0 : Int32) (f : mFn) (g : mGn), rg 0 1 s0 → cI n e f0 f g → X 16 [] [.inl s0] f g := by
    intro s0 f g hs0 hI
    refine hX.1 2 _ rfl _ _ _ _ ?_
    exact And.intro (mRt_z (rg_01 hs0 (by decide +kernel))) (hK _ _ _ (rg_w (c := 0) (d := 1) hs0 (by decide +kernel)) hI)
  have b15 : ∀ (f : mFn) (g : mGn), cI n e f0 f g → X 15 [] [] f g := by
    intro  f g  hI
    refine hX.1 1 _ rfl _ _ _ _ ?_
    exact hX.2 _ _ [] _ _ _ mW0 (b16 _ _ _ (rg_w (c := 0) (d := 1) (rg_c (a := 0) (b := 0) (by decide +kernel)) (by decide +kernel)) hI)
  refine hX.1 0 _ rfl _ _ _ _ ?_
  refine And.intro (fun c3 => ?_) (fun c3 => ?_)
  · -- 15
    exact hX.2 _ _ [] _ _ _ mW0 (b15  _ _  hI)
  · -- on
    refine And.intro (fun c4 => ?_) (fun c4 => ?_)
    · -- 15
      exact hX.2 _ _ [] _ _ _ mW0 (b15  _ _  hI)
    · -- on
      exact hX.2 _ _ [] _ _ _ mW0 (b16 _ _ _ (rg_w (c := 0) (d := 1) (rg_c (a := 1) (b := 1) (by decide +kernel)) (by decide +kernel)) hI)
def SPX8_burn (S : mSp) : Prop := ∀ (n e : Int) (f0 f : mFn) (g : mGn) (K : mKr) (x1 : Int32) (x2 : Int32) (x3 : Int32) (x4 : Int32) (x5 : Int32) (x6 : Int32), cI n e f0 f g → (∀ (y : Int32) (f' : mFn) (g' : mGn), rg 0 10 y → cI n e f0 f' g' → K (some (.inl y)) f' g') → S [.inr 0, .inl x1, .inl x2, .inl x3, .inl x4, .inl x5, .inl x6] f g K
-- by hand: jump out
theorem sfX8_burn : SPX8_burn spX8_burn := by
  sorry
def SPX8_canBePut (S : mSp) : Prop := ∀ (n e : Int) (f0 f : mFn) (g : mGn) (K : mKr) (x0 : Int32), cI n e f0 f g → (∀ (y : Int32) (f' : mFn) (g' : mGn), rg 0 1 y → cI n e f0 f' g' → K (some (.inl y)) f' g') → S [.inl x0] f g K
set_option maxRecDepth 100000 in
set_option maxHeartbeats 4000000 in
theorem sfX8_canBePut : SPX8_canBePut spX8_canBePut := by
  intro n e f0 f g K x0  hI hK
  refine ⟨rfl, fun X hX => ?_⟩
  have b41 : ∀ (s0 : Int32) (f : mFn) (g : mGn), rg 0 1 s0 → cI n e f0 f g → X 41 [] [.inl s0] f g := by
    intro s0 f g hs0 hI
    refine hX.1 5 _ rfl _ _ _ _ ?_
    exact And.intro (mRt_z (rg_01 hs0 (by decide +kernel))) (hK _ _ _ (rg_w (c := 0) (d := 1) hs0 (by decide +kernel)) hI)
  have b36 : ∀ (f : mFn) (g : mGn), cI n e f0 f g → X 36 [] [] f g := by
    intro  f g  hI
    refine hX.1 3 _ rfl _ _ _ _ ?_
    exact hX.2 _ _ [] _ _ _ mW0 (b41 _ _ _ (rg_w (c := 0) (d := 1) (rg_c (a := 1) (b := 1) (by decide +kernel)) (by decide +kernel)) hI)
  have b40 : ∀ (f : mFn) (g : mGn), cI n e f0 f g → X 40 [] [] f g := by
    intro  f g  hI
    refine hX.1 4 _ rfl _ _ _ _ ?_
    exact hX.2 _ _ [] _ _ _ mW0 (b41 _ _ _ (rg_w (c := 0) (d := 1) (rg_c (a := 0) (b := 0) (by decide +kernel)) (by decide +kernel)) hI)
  have b22 : ∀ (a0 : Int32) (f : mFn) (g : mGn), cI n e f0 f g → X 22 [(0, .inl a0)] [] f g := by
    intro a0 f g  hI
    refine hX.1 2 _ rfl _ _ _ _ ?_
    refine And.intro (fun c7 => ?_) (fun c7 => ?_)
    · -- 40
      exact hX.2 _ _ [] _ _ _ mW0 (b40  _ _  hI)
    · -- on
      refine And.intro (fun c8 => ?_) (fun c8 => ?_)
      · -- 40
        exact hX.2 _ _ [] _ _ _ mW0 (b40  _ _  hI)
      · -- on
        exact hX.2 _ _ [] _ _ _ mW0 (b36  _ _  hI)
  have b10 : ∀ (a0 : Int32) (f : mFn) (g : mGn), cI n e f0 f g → X 10 [(0, .inl a0)] [] f g := by
    intro a0 f g  hI
    refine hX.1 1 _ rfl _ _ _ _ ?_
    refine And.intro (fun c9 => ?_) (fun c9 => ?_)
    · -- 22
      exact hX.2 _ _ [(0, .inl _)] _ _ _ (mWc rfl mW0) (b22 _ _ _  hI)
    · -- on
      refine And.intro (fun c10 => ?_) (fun c10 => ?_)
      · -- 36
        exact hX.2 _ _ [] _ _ _ mW0 (b36  _ _  hI)
      · -- on
        exact hX.2 _ _ [(0, .inl _)] _ _ _ (mWc rfl mW0) (b22 _ _ _  hI)
  refine hX.1 0 _ rfl _ _ _ _ ?_
  refine And.intro (fun c11 => ?_) (fun c11 => ?_)
  · -- 10
    exact hX.2 _ _ [(0, .inl _)] _ _ _ (mWc rfl mW0) (b10 _ _ _  hI)
  · -- on
    refine And.intro (fun c12 => ?_) (fun c12 => ?_)
    · -- 36
      exact hX.2 _ _ [] _ _ _ mW0 (b36  _ _  hI)
    · -- on
      exact hX.2 _ _ [(0, .inl _)] _ _ _ (mWc rfl mW0) (b10 _ _ _  hI)
def SPX8_data (S : mSp) : Prop := ∀ (n e : Int) (f0 f : mFn) (g : mGn) (K : mKr) (x1 : Int32), cI n e f0 f g → (∀ (y : Int32) (f' : mFn) (g' : mGn), cI n e f0 f' g' → K (some (.inl y)) f' g') → S [.inr 0, .inl x1] f g K
-- by hand: jump out
theorem sfX8_data : SPX8_data spX8_data := by
  sorry
def SPX8_eeprom (S : mSp) : Prop := ∀ (n e : Int) (f0 f : mFn) (g : mGn) (K : mKr) (x1 : Int32), cI n e f0 f g → (∀ (y : Int32) (f' : mFn) (g' : mGn), cI n e f0 f' g' → K (some (.inl y)) f' g') → S [.inr 0, .inl x1] f g K
-- by hand: jump out
theorem sfX8_eeprom : SPX8_eeprom spX8_eeprom := by
  sorry
def SPX8_fuses (S : mSp) : Prop := ∀ (n e : Int) (f0 f : mFn) (g : mGn) (K : mKr) (x1 : Int32), cI n e f0 f g → (∀ (y : Int32) (f' : mFn) (g' : mGn), cI n e f0 f' g' → K (some (.inl y)) f' g') → S [.inr 0, .inl x1] f g K
set_option maxRecDepth 100000 in
set_option maxHeartbeats 4000000 in
theorem sfX8_fuses : SPX8_fuses spX8_fuses := by
  intro n e f0 f g K x1  hI hK
  refine ⟨rfl, fun X hX => ?_⟩
  refine hX.1 0 _ rfl _ _ _ _ ?_
  exact And.intro mRt_i (hK _ _ _ (cP0 (cP0 hI (by decide +kernel)) (by decide +kernel)))
def SPX8_got (S : mSp) : Prop := ∀ (n e : Int) (f0 f : mFn) (g : mGn) (K : mKr) (x1 : Int32), cI n e f0 f g → (∀ (y : Int32) (f' : mFn) (g' : mGn), cI n e f0 f' g' → K (some (.inl y)) f' g') → S [.inr 0, .inl x1] f g K
-- by hand: index -2147483648..2147483647 of 1000 at 52
theorem sfX8_got : SPX8_got spX8_got := by
  sorry
def SPX8_host (S : mSp) : Prop := ∀ (n e : Int) (f0 f : mFn) (g : mGn) (K : mKr) (x1 : Int32), cI n e f0 f g → (∀ (y : Int32) (f' : mFn) (g' : mGn), rg (-1) 300 y → cI n e f0 f' g' → K (some (.inl y)) f' g') → S [.inr 0, .inl x1] f g K
set_option maxRecDepth 100000 in
set_option maxHeartbeats 4000000 in
theorem sfX8_host : SPX8_host spX8_host := by
  intro n e f0 f g K x1  hI hK
  refine ⟨rfl, fun X hX => ?_⟩
  obtain ⟨S_X4_queue, k_X4_queue, hX⟩ : ∃ S_X4_queue, SPX4_queue S_X4_queue ∧ mR shC fdX8_host [(51, 0, 1, 7, S_X4_queue)] bsX8_host (fun r f g => mRt (some .int) r ∧ K r f g) X := ⟨spX4_queue, sfX4_queue, hX⟩
  refine hX.1 0 _ rfl _ _ _ _ ?_
  refine k_X4_queue n _ f0 _ _ _ _ (rg_w (c := 0) (d := 255) (show rg 0 255 _ from (rg_andR (rg_c (a := 255) (b := 255) (by decide +kernel)) (by decide +kernel))) (by decide +kernel)) hI (fun y4 f5 gf5 hy4 hI6 => ?_)
  exact And.intro mRt_i (hK _ _ _ (rg_w (c := (-1)) (d := 300) hy4 (by decide +kernel)) hI6)
def SPX8_resetBy (S : mSp) : Prop := ∀ (n e : Int) (f0 f : mFn) (g : mGn) (K : mKr) (x1 : Int32), rg 1 8 x1 → cI n e f0 f g → (∀ (f' : mFn) (g' : mGn), cI n e f0 f' g' → K none f' g') → S [.inr 0, .inl x1] f g K
set_option maxRecDepth 100000 in
set_option maxHeartbeats 4000000 in
theorem sfX8_resetBy : SPX8_resetBy spX8_resetBy := by
  intro n e f0 f g K x1 hx1 hI hK
  refine ⟨rfl, fun X hX => ?_⟩
  obtain ⟨S_X5_clear, k_X5_clear, S_X1_goTo, k_X1_goTo, hX⟩ : ∃ S_X5_clear, SPX5_clear S_X5_clear ∧ ∃ S_X1_goTo, SPX1_goTo S_X1_goTo ∧ mR shC fdX8_resetBy [(228, 0, 1, 8, S_X5_clear), (128, 0, 1, 4, S_X1_goTo)] bsX8_resetBy (fun r f g => mRt none r ∧ K r f g) X := ⟨spX5_clear, sfX5_clear, spX1_goTo, sfX1_goTo, hX⟩
  have b33 : ∀ (s1 : Int32) (f : mFn) (g : mGn), rg 0 1536 s1 → cI n e f0 f g → X 33 [] [.inl s1, .inr 2] f g := by
    intro s1 f g hs1 hI
    refine hX.1 2 _ rfl _ _ _ _ ?_
    refine k_X1_goTo n _ f0 _ _ _ _  hI (fun f9 gf9 hI10 => ?_)
    exact And.intro mRt_v (hK _ _ hI10)
  refine hX.1 0 _ rfl _ _ _ _ ?_
  refine k_X5_clear n _ f0 _ _ _ _ (rg_w (c := 1) (d := 8) hx1 (by decide +kernel)) hI (fun f12 gf12 hI13 => ?_)
  refine And.intro (fun c14 => ?_) (fun c14 => ?_)
  · -- 32
    refine hX.1 1 _ rfl _ _ _ _ ?_
    exact hX.2 _ _ [] _ _ _ mW0 (b33 _ _ _ (rg_w (c := 0) (d := 1536) (rg_c (a := 0) (b := 0) (by decide +kernel)) (by decide +kernel)) hI13)
  · -- on
    exact hX.2 _ _ [] _ _ _ mW0 (b33 _ _ _ (rg_w (c := 0) (d := 1536) (rg_c (a := 1536) (b := 1536) (by decide +kernel)) (by decide +kernel)) hI13)
def SPX8_letPass (S : mSp) : Prop := ∀ (n e : Int) (f0 f : mFn) (g : mGn) (K : mKr) (x1 : Int32), cI n e f0 f g → (∀ (y : Int32) (f' : mFn) (g' : mGn), cI n e f0 f' g' → K (some (.inl y)) f' g') → S [.inr 0, .inl x1] f g K
-- by hand: loop
theorem sfX8_letPass : SPX8_letPass spX8_letPass := by
  sorry
def SPX8_oneStep (S : mSp) : Prop := ∀ (n e : Int) (f0 f : mFn) (g : mGn) (K : mKr), n + 2 ≤ 300000000 → cI n e f0 f g → (∀ (y : Int32) (f' : mFn) (g' : mGn), cI (n + 2) e f0 f' g' → K (some (.inl y)) f' g') → S [.inr 0] f g K
set_option maxRecDepth 100000 in
set_option maxHeartbeats 4000000 in
theorem sfX8_oneStep : SPX8_oneStep spX8_oneStep := by
  intro n e f0 f g K   hB hI hK
  refine ⟨rfl, fun X hX => ?_⟩
  obtain ⟨S_X1_waitingInterrupt, k_X1_waitingInterrupt, S_X8_letPass, k_X8_letPass, S_X1_enter, k_X1_enter, S_X1_instruction, k_X1_instruction, hX⟩ : ∃ S_X1_waitingInterrupt, SPX1_waitingInterrupt S_X1_waitingInterrupt ∧ ∃ S_X8_letPass, SPX8_letPass S_X8_letPass ∧ ∃ S_X1_enter, SPX1_enter S_X1_enter ∧ ∃ S_X1_instruction, SPX1_instruction S_X1_instruction ∧ mR shC fdX8_oneStep [(204, 0, 0, 4, S_X1_waitingInterrupt), (209, 0, 1, 11, S_X8_letPass), (215, 0, 1, 4, S_X1_enter), (218, 0, 0, 4, S_X1_instruction)] bsX8_oneStep (fun r f g => mRt (some .int) r ∧ K r f g) X := ⟨spX1_waitingInterrupt, sfX1_waitingInterrupt, spX8_letPass, sfX8_letPass, spX1_enter, sfX1_enter, spX1_instruction, sfX1_instruction, hX⟩
  have b76 : ∀ (f : mFn) (g : mGn), cI n e f0 f g → X 76 [(0, .inr 0)] [] f g := by
    intro  f g  hI
    refine hX.1 2 _ rfl _ _ _ _ ?_
    refine k_X1_instruction n _ f0 _ _ _   (by omega) hI (fun y25 f26 gf26 hy25 hI27 => ?_)
    refine k_X8_letPass (n + 2) _ f0 _ _ _ _  hI27 (fun y28 f29 gf29 hI30 => ?_)
    exact And.intro mRt_i (hK _ _ _ hI30)
  have b38 : ∀ (a1 : Int32) (f : mFn) (g : mGn), rg 0 8 a1 → cI n e f0 f g → X 38 [(0, .inr 0), (1, .inl a1)] [] f g := by
    intro a1 f g ha1 hI
    refine hX.1 1 _ rfl _ _ _ _ ?_
    refine And.intro (fun c31 => ?_) (fun c31 => ?_)
    · -- 76
      exact hX.2 _ _ [(0, .inr 0)] _ _ _ (mWc rfl mW0) (b76  _ _  hI)
    · -- on
      refine And.intro (fun c32 => ?_) (fun c32 => ?_)
      · -- 76
        exact hX.2 _ _ [(0, .inr 0)] _ _ _ (mWc rfl mW0) (b76  _ _  hI)
      · -- on
        refine k_X1_enter n _ f0 _ _ _ _ (rg_w (c := 1) (d := 8) (show rg 1 8 _ from (rg_neL ha1 (rg_c (a := 0) (b := 0) (by decide +kernel)) c31 (by decide +kernel))) (by decide +kernel)) (by omega) (cP0 hI (by decide +kernel)) (fun f35 gf35 hI36 => ?_)
        refine k_X8_letPass (n + 2) _ f0 _ _ _ _  hI36 (fun y37 f38 gf38 hI39 => ?_)
        exact And.intro mRt_i (hK _ _ _ hI39)
  refine hX.1 0 _ rfl _ _ _ _ ?_
  refine k_X1_waitingInterrupt n _ f0 _ _ _  (cP0 hI (by decide +kernel)) (fun y41 f42 gf42 hy41 hI43 => ?_)
  refine And.intro (fun c44 => ?_) (fun c44 => ?_)
  · -- 38
    exact hX.2 _ _ [(0, .inr 0), (1, .inl _)] _ _ _ (mWc rfl (mWc rfl mW0)) (b38 _ _ _ (rg_w (c := 0) (d := 8) hy41 (by decide +kernel)) hI43)
  · -- on
    refine And.intro (fun c45 => ?_) (fun c45 => ?_)
    · -- 38
      exact hX.2 _ _ [(0, .inr 0), (1, .inl _)] _ _ _ (mWc rfl (mWc rfl mW0)) (b38 _ _ _ (rg_w (c := 0) (d := 8) (show rg 1 8 _ from (rg_neL hy41 (rg_c (a := 0) (b := 0) (by decide +kernel)) c45 (by decide +kernel))) (by decide +kernel)) hI43)
    · -- on
      refine k_X8_letPass n _ f0 _ _ _ _  hI43 (fun y46 f47 gf47 hI48 => ?_)
      exact And.intro mRt_i (hK _ _ _ (cM hI48 (by omega) (by omega)))
def SPX8_pass (S : mSp) : Prop := ∀ (n e : Int) (f0 f : mFn) (g : mGn) (K : mKr) (x1 : Int32), n + 4 ≤ 300000000 → cI n e f0 f g → (∀ (y : Int32) (f' : mFn) (g' : mGn), cI (n + 4) e f0 f' g' → K (some (.inl y)) f' g') → S [.inr 0, .inl x1] f g K
-- by hand: loop
theorem sfX8_pass : SPX8_pass spX8_pass := by
  sorry
def SPX8_pins (S : mSp) : Prop := ∀ (n e : Int) (f0 f : mFn) (g : mGn) (K : mKr) (x1 : Int32), cI n e f0 f g → (∀ (y : Int32) (f' : mFn) (g' : mGn), cI n e f0 f' g' → K (some (.inl y)) f' g') → S [.inr 0, .inl x1] f g K
-- by hand: writes counted scalar 70
theorem sfX8_pins : SPX8_pins spX8_pins := by
  sorry
def SPX8_power (S : mSp) : Prop := ∀ (n e : Int) (f0 f : mFn) (g : mGn) (K : mKr) (x1 : Int32), rg 0 1 x1 → cI n e f0 f g → (∀ (y : Int32) (f' : mFn) (g' : mGn), rg 0 1 y → cI n e f0 f' g' → K (some (.inl y)) f' g') → S [.inr 0, .inl x1] f g K
-- by hand: writes counted scalar 2
theorem sfX8_power : SPX8_power spX8_power := by
  sorry
def SPX8_put (S : mSp) : Prop := ∀ (n e : Int) (f0 f : mFn) (g : mGn) (K : mKr) (x1 : Int32) (x2 : Int32), cI n e f0 f g → (∀ (f' : mFn) (g' : mGn), cI n e f0 f' g' → K none f' g') → S [.inr 0, .inl x1, .inl x2] f g K
-- by hand: index -2147483648..2147483647 of 1280 at 30
theorem sfX8_put : SPX8_put spX8_put := by
  sorry
def SPX8_reset (S : mSp) : Prop := ∀ (n e : Int) (f0 f : mFn) (g : mGn) (K : mKr), cI n e f0 f g → (∀ (f' : mFn) (g' : mGn), cI n e f0 f' g' → K none f' g') → S [.inr 0] f g K
set_option maxRecDepth 100000 in
set_option maxHeartbeats 4000000 in
theorem sfX8_reset : SPX8_reset spX8_reset := by
  intro n e f0 f g K   hI hK
  refine ⟨rfl, fun X hX => ?_⟩
  obtain ⟨S_X8_resetBy, k_X8_resetBy, hX⟩ : ∃ S_X8_resetBy, SPX8_resetBy S_X8_resetBy ∧ mR shC fdX8_reset [(29, 0, 1, 11, S_X8_resetBy)] bsX8_reset (fun r f g => mRt none r ∧ K r f g) X := ⟨spX8_resetBy, sfX8_resetBy, hX⟩
  have b12 : ∀ (f : mFn) (g : mGn), cI n e f0 f g → X 12 [] [] f g := by
    intro  f g  hI
    refine hX.1 1 _ rfl _ _ _ _ ?_
    exact And.intro mRt_v (hK _ _ hI)
  refine hX.1 0 _ rfl _ _ _ _ ?_
  refine And.intro (fun c5 => ?_) (fun c5 => ?_)
  · -- 12
    exact hX.2 _ _ [] _ _ _ mW0 (b12  _ _  hI)
  · -- on
    refine k_X8_resetBy n _ f0 _ _ _ _ (rg_w (c := 1) (d := 8) (rg_c (a := 2) (b := 2) (by decide +kernel)) (by decide +kernel)) hI (fun f7 gf7 hI8 => ?_)
    exact hX.2 _ _ [] _ _ _ mW0 (b12  _ _  hI8)
def SPX8_run (S : mSp) : Prop := ∀ (n e : Int) (f0 f : mFn) (g : mGn) (K : mKr) (x1 : Int32), n + 4 ≤ 300000000 → cI n e f0 f g → (∀ (y : Int32) (f' : mFn) (g' : mGn), cI (n + 4) e f0 f' g' → K (some (.inl y)) f' g') → S [.inr 0, .inl x1] f g K
-- by hand: loop
theorem sfX8_run : SPX8_run spX8_run := by
  sorry
def SPX8_sent (S : mSp) : Prop := ∀ (n e : Int) (f0 f : mFn) (g : mGn) (K : mKr), cI n e f0 f g → (∀ (y : Int32) (f' : mFn) (g' : mGn), rg 0 2147483647 y → cI n e f0 f' g' → K (some (.inl y)) f' g') → S [.inr 0] f g K
set_option maxRecDepth 100000 in
set_option maxHeartbeats 4000000 in
theorem sfX8_sent : SPX8_sent spX8_sent := by
  intro n e f0 f g K   hI hK
  refine ⟨rfl, fun X hX => ?_⟩
  refine hX.1 0 _ rfl _ _ _ _ ?_
  exact And.intro mRt_i (hK _ _ _ (rg_w (c := 0) (d := 2147483647) (gI_s hI 3 325 0 2147483647 rfl) (by decide +kernel)) hI)
def SPX8_start (S : mSp) : Prop := ∀ (n e : Int) (f0 f : mFn) (g : mGn) (K : mKr) (x1 : Int32), cI n e f0 f g → (∀ (f' : mFn) (g' : mGn), cI n e f0 f' g' → K none f' g') → S [.inr 0, .inl x1] f g K
-- by hand: jump out
theorem sfX8_start : SPX8_start spX8_start := by
  sorry
def SPX8_step (S : mSp) : Prop := ∀ (n e : Int) (f0 f : mFn) (g : mGn) (K : mKr), n + 2 ≤ 300000000 → cI n e f0 f g → (∀ (y : Int32) (f' : mFn) (g' : mGn), cI (n + 2) e f0 f' g' → K (some (.inl y)) f' g') → S [.inr 0] f g K
set_option maxRecDepth 100000 in
set_option maxHeartbeats 4000000 in
theorem sfX8_step : SPX8_step spX8_step := by
  intro n e f0 f g K   hB hI hK
  refine ⟨rfl, fun X hX => ?_⟩
  obtain ⟨S_X8_oneStep, k_X8_oneStep, hX⟩ : ∃ S_X8_oneStep, SPX8_oneStep S_X8_oneStep ∧ mR shC fdX8_step [(33, 0, 0, 11, S_X8_oneStep)] bsX8_step (fun r f g => mRt (some .int) r ∧ K r f g) X := ⟨spX8_oneStep, sfX8_oneStep, hX⟩
  have b15 : ∀ (s0 : Int32) (f : mFn) (g : mGn), cI (n + 2) e f0 f g → X 15 [] [.inl s0] f g := by
    intro s0 f g  hI
    refine hX.1 2 _ rfl _ _ _ _ ?_
    exact And.intro mRt_i (hK _ _ _ hI)
  refine hX.1 0 _ rfl _ _ _ _ ?_
  refine And.intro (fun c5 => ?_) (fun c5 => ?_)
  · -- 14
    refine hX.1 1 _ rfl _ _ _ _ ?_
    exact hX.2 _ _ [] _ _ _ mW0 (b15 _ _ _  (cM hI (by omega) (by omega)))
  · -- on
    refine k_X8_oneStep n _ f0 _ _ _   (by omega) hI (fun y6 f7 gf7 hI8 => ?_)
    exact hX.2 _ _ [] _ _ _ mW0 (b15 _ _ _  hI8)
def SPX8_word (S : mSp) : Prop := ∀ (n e : Int) (f0 f : mFn) (g : mGn) (K : mKr) (x1 : Int32), cI n e f0 f g → (∀ (y : Int32) (f' : mFn) (g' : mGn), cI n e f0 f' g' → K (some (.inl y)) f' g') → S [.inr 0, .inl x1] f g K
-- by hand: index -2147483648..2147483647 of 2048 at 28
theorem sfX8_word : SPX8_word spX8_word := by
  sorry
def SPX9_right (S : mSp) : Prop := ∀ (n e : Int) (f0 f : mFn) (g : mGn) (K : mKr) (x1 : Int32), rg 0 1 x1 → rI n e f0 f g → (∀ (y : Int32) (f' : mFn) (g' : mGn), rg 0 1 y → rI n e f0 f' g' → K (some (.inl y)) f' g') → S [.inr 0, .inl x1] f g K
set_option maxRecDepth 100000 in
set_option maxHeartbeats 4000000 in
theorem sfX9_right : SPX9_right spX9_right := by
  intro n e f0 f g K x1 hx1 hI hK
  refine ⟨rfl, fun X hX => ?_⟩
  have b10 : ∀ (a1 : Int32) (s1 : Int32) (f : mFn) (g : mGn), rg 0 1 a1 → rg 0 1 s1 → rI n e f0 f g → X 10 [(1, .inl a1)] [.inl s1, .inr 0] f g := by
    intro a1 s1 f g ha1 hs1 hI
    refine hX.1 2 _ rfl _ _ _ _ ?_
    exact And.intro (mRt_z (rg_01 ha1 (by decide +kernel))) (hK _ _ _ (rg_w (c := 0) (d := 1) ha1 (by decide +kernel)) (rP1 0 (rg_w (c := 0) (d := 1) hs1 (by decide +kernel)) hI (by decide +kernel)))
  refine hX.1 0 _ rfl _ _ _ _ ?_
  refine And.intro (fun c4 => ?_) (fun c4 => ?_)
  · -- 9
    refine hX.1 1 _ rfl _ _ _ _ ?_
    exact hX.2 _ _ [(1, .inl _)] _ _ _ (mWc rfl mW0) (b10 _ _ _ _ (rg_w (c := 0) (d := 1) (show rg 0 0 _ from (rg_eq (rg_c (a := 0) (b := 0) (by decide +kernel)) c4)) (by decide +kernel)) (rg_w (c := 0) (d := 1) (rg_c (a := 1) (b := 1) (by decide +kernel)) (by decide +kernel)) hI)
  · -- on
    exact hX.2 _ _ [(1, .inl _)] _ _ _ (mWc rfl mW0) (b10 _ _ _ _ (rg_w (c := 0) (d := 1) (show rg 1 1 _ from (rg_neL hx1 (rg_c (a := 0) (b := 0) (by decide +kernel)) c4 (by decide +kernel))) (by decide +kernel)) (rg_w (c := 0) (d := 1) (rg_c (a := 0) (b := 0) (by decide +kernel)) (by decide +kernel)) hI)
def SPX9_pointer (S : mSp) : Prop := ∀ (n e : Int) (f0 f : mFn) (g : mGn) (K : mKr) (x1 : Int32), rg 0 93 x1 → rI n e f0 f g → (∀ (y : Int32) (f' : mFn) (g' : mGn), rg 0 65535 y → rI n e f0 f' g' → K (some (.inl y)) f' g') → S [.inr 0, .inl x1] f g K
set_option maxRecDepth 100000 in
set_option maxHeartbeats 4000000 in
theorem sfX9_pointer : SPX9_pointer spX9_pointer := by
  intro n e f0 f g K x1 hx1 hI hK
  refine ⟨rfl, fun X hX => ?_⟩
  refine hX.1 0 _ rfl _ _ _ _ ?_
  refine And.intro (rg_in hx1 (by decide +kernel)) ?_
  refine And.intro (rg_in (show rg 1 94 _ from (rg_add hx1 (rg_c (a := 1) (b := 1) (by decide +kernel)) (by decide +kernel))) (by decide +kernel)) ?_
  exact And.intro mRt_i (hK _ _ _ (rg_w (c := 0) (d := 65535) (show rg 0 65535 _ from (rg_or (k := 16) (gI_g hI 2 3 1280 0 255 rfl (rg_in hx1 (by decide +kernel))) (show rg 0 65280 _ from (rg_shlK 8 (gI_g hI 2 3 1280 0 255 rfl (rg_in (show rg 1 94 _ from (rg_add hx1 (rg_c (a := 1) (b := 1) (by decide +kernel)) (by decide +kernel))) (by decide +kernel))) (by decide +kernel) (by decide +kernel))) (by decide +kernel))) (by decide +kernel)) hI)
def SPX9_flag (S : mSp) : Prop := ∀ (n e : Int) (f0 f : mFn) (g : mGn) (K : mKr) (x1 : Int32), rg 0 7 x1 → rI n e f0 f g → (∀ (y : Int32) (f' : mFn) (g' : mGn), rg 0 1 y → rI n e f0 f' g' → K (some (.inl y)) f' g') → S [.inr 0, .inl x1] f g K
set_option maxRecDepth 100000 in
set_option maxHeartbeats 4000000 in
theorem sfX9_flag : SPX9_flag spX9_flag := by
  intro n e f0 f g K x1 hx1 hI hK
  refine ⟨rfl, fun X hX => ?_⟩
  have b20 : ∀ (s0 : Int32) (f : mFn) (g : mGn), rg 0 1 s0 → rI n e f0 f g → X 20 [] [.inl s0] f g := by
    intro s0 f g hs0 hI
    refine hX.1 2 _ rfl _ _ _ _ ?_
    exact And.intro (mRt_z (rg_01 hs0 (by decide +kernel))) (hK _ _ _ (rg_w (c := 0) (d := 1) hs0 (by decide +kernel)) hI)
  refine hX.1 0 _ rfl _ _ _ _ ?_
  refine And.intro (rg_in (rg_c (a := 95) (b := 95) (by decide +kernel)) (by decide +kernel)) ?_
  refine And.intro (fun c2 => ?_) (fun c2 => ?_)
  · -- 19
    refine hX.1 1 _ rfl _ _ _ _ ?_
    exact hX.2 _ _ [] _ _ _ mW0 (b20 _ _ _ (rg_w (c := 0) (d := 1) (rg_c (a := 0) (b := 0) (by decide +kernel)) (by decide +kernel)) hI)
  · -- on
    exact hX.2 _ _ [] _ _ _ mW0 (b20 _ _ _ (rg_w (c := 0) (d := 1) (rg_c (a := 1) (b := 1) (by decide +kernel)) (by decide +kernel)) hI)
def SPX9_interrupt (S : mSp) : Prop := ∀ (n e : Int) (f0 f : mFn) (g : mGn) (K : mKr), rI n e f0 f g → (∀ (y : Int32) (f' : mFn) (g' : mGn), rg 0 8 y → rI n e f0 f' g' → K (some (.inl y)) f' g') → S [.inr 0] f g K
set_option maxRecDepth 100000 in
set_option maxHeartbeats 4000000 in
theorem sfX9_interrupt : SPX9_interrupt spX9_interrupt := by
  intro n e f0 f g K   hI hK
  refine ⟨rfl, fun X hX => ?_⟩
  have b141 : ∀ (s0 : Int32) (f : mFn) (g : mGn), rg 0 8 s0 → rI n e f0 f g → X 141 [] [.inl s0] f g := by
    intro s0 f g hs0 hI
    refine hX.1 9 _ rfl _ _ _ _ ?_
    exact And.intro mRt_i (hK _ _ _ (rg_w (c := 0) (d := 8) hs0 (by decide +kernel)) hI)
  refine hX.1 0 _ rfl _ _ _ _ ?_
  refine And.intro (rg_in (rg_c (a := 96) (b := 96) (by decide +kernel)) (by decide +kernel)) ?_
  refine And.intro (rg_in (rg_c (a := 53) (b := 53) (by decide +kernel)) (by decide +kernel)) ?_
  refine And.intro (rg_in (rg_c (a := 110) (b := 110) (by decide +kernel)) (by decide +kernel)) ?_
  refine And.intro (rg_in (rg_c (a := 192) (b := 192) (by decide +kernel)) (by decide +kernel)) ?_
  refine And.intro (rg_in (rg_c (a := 193) (b := 193) (by decide +kernel)) (by decide +kernel)) ?_
  refine And.intro (fun c9 => ?_) (fun c9 => ?_)
  · -- 55
    refine hX.1 1 _ rfl _ _ _ _ ?_
    refine And.intro (fun c10 => ?_) (fun c10 => ?_)
    · -- 63
      refine hX.1 2 _ rfl _ _ _ _ ?_
      refine And.intro (fun c11 => ?_) (fun c11 => ?_)
      · -- 71
        refine hX.1 3 _ rfl _ _ _ _ ?_
        refine And.intro (fun c12 => ?_) (fun c12 => ?_)
        · -- 81
          refine hX.1 4 _ rfl _ _ _ _ ?_
          refine And.intro (fun c13 => ?_) (fun c13 => ?_)
          · -- 90
            refine hX.1 5 _ rfl _ _ _ _ ?_
            refine And.intro (fun c14 => ?_) (fun c14 => ?_)
            · -- 100
              refine hX.1 6 _ rfl _ _ _ _ ?_
              refine And.intro (rg_in (rg_c (a := 63) (b := 63) (by decide +kernel)) (by decide +kernel)) ?_
              refine And.intro (fun c15 => ?_) (fun c15 => ?_)
              · -- 118
                refine hX.1 7 _ rfl _ _ _ _ ?_
                refine And.intro (rg_in (rg_c (a := 87) (b := 87) (by decide +kernel)) (by decide +kernel)) ?_
                refine And.intro (fun c16 => ?_) (fun c16 => ?_)
                · -- 140
                  refine hX.1 8 _ rfl _ _ _ _ ?_
                  exact hX.2 _ _ [] _ _ _ mW0 (b141 _ _ _ (rg_w (c := 0) (d := 8) (rg_c (a := 0) (b := 0) (by decide +kernel)) (by decide +kernel)) hI)
                · -- on
                  exact hX.2 _ _ [] _ _ _ mW0 (b141 _ _ _ (rg_w (c := 0) (d := 8) (rg_c (a := 8) (b := 8) (by decide +kernel)) (by decide +kernel)) hI)
              · -- on
                exact And.intro mRt_i (hK _ _ _ (rg_w (c := 0) (d := 8) (rg_c (a := 7) (b := 7) (by decide +kernel)) (by decide +kernel)) hI)
            · -- on
              exact And.intro mRt_i (hK _ _ _ (rg_w (c := 0) (d := 8) (rg_c (a := 6) (b := 6) (by decide +kernel)) (by decide +kernel)) hI)
          · -- on
            exact And.intro mRt_i (hK _ _ _ (rg_w (c := 0) (d := 8) (rg_c (a := 5) (b := 5) (by decide +kernel)) (by decide +kernel)) hI)
        · -- on
          exact And.intro mRt_i (hK _ _ _ (rg_w (c := 0) (d := 8) (rg_c (a := 4) (b := 4) (by decide +kernel)) (by decide +kernel)) hI)
      · -- on
        exact And.intro mRt_i (hK _ _ _ (rg_w (c := 0) (d := 8) (rg_c (a := 3) (b := 3) (by decide +kernel)) (by decide +kernel)) hI)
    · -- on
      exact And.intro mRt_i (hK _ _ _ (rg_w (c := 0) (d := 8) (rg_c (a := 2) (b := 2) (by decide +kernel)) (by decide +kernel)) hI)
  · -- on
    exact And.intro mRt_i (hK _ _ _ (rg_w (c := 0) (d := 8) (rg_c (a := 1) (b := 1) (by decide +kernel)) (by decide +kernel)) hI)
def SPX9_awaited (S : mSp) : Prop := ∀ (n e : Int) (f0 f : mFn) (g : mGn) (K : mKr), rI n e f0 f g → (∀ (y : Int32) (f' : mFn) (g' : mGn), rg 0 8 y → rI n e f0 f' g' → K (some (.inl y)) f' g') → S [.inr 0] f g K
set_option maxRecDepth 100000 in
set_option maxHeartbeats 4000000 in
theorem sfX9_awaited : SPX9_awaited spX9_awaited := by
  intro n e f0 f g K   hI hK
  refine ⟨rfl, fun X hX => ?_⟩
  obtain ⟨S_X9_flag, k_X9_flag, S_X9_interrupt, k_X9_interrupt, hX⟩ : ∃ S_X9_flag, SPX9_flag S_X9_flag ∧ ∃ S_X9_interrupt, SPX9_interrupt S_X9_interrupt ∧ mR shM fdX9_awaited [(163, 0, 1, 12, S_X9_flag), (166, 0, 0, 12, S_X9_interrupt)] bsX9_awaited (fun r f g => mRt (some .int) r ∧ K r f g) X := ⟨spX9_flag, sfX9_flag, spX9_interrupt, sfX9_interrupt, hX⟩
  have b17 : ∀ (s0 : Int32) (f : mFn) (g : mGn), rg 0 8 s0 → rI n e f0 f g → X 17 [] [.inl s0] f g := by
    intro s0 f g hs0 hI
    refine hX.1 2 _ rfl _ _ _ _ ?_
    exact And.intro mRt_i (hK _ _ _ (rg_w (c := 0) (d := 8) hs0 (by decide +kernel)) hI)
  refine hX.1 0 _ rfl _ _ _ _ ?_
  refine k_X9_flag n _ f0 _ _ _ _ (rg_w (c := 0) (d := 7) (rg_c (a := 7) (b := 7) (by decide +kernel)) (by decide +kernel)) hI (fun y8 f9 gf9 hy8 hI10 => ?_)
  refine And.intro (fun c11 => ?_) (fun c11 => ?_)
  · -- 16
    refine hX.1 1 _ rfl _ _ _ _ ?_
    exact hX.2 _ _ [] _ _ _ mW0 (b17 _ _ _ (rg_w (c := 0) (d := 8) (rg_c (a := 0) (b := 0) (by decide +kernel)) (by decide +kernel)) hI10)
  · -- on
    refine k_X9_interrupt n _ f0 _ _ _  hI10 (fun y12 f13 gf13 hy12 hI14 => ?_)
    exact hX.2 _ _ [] _ _ _ mW0 (b17 _ _ _ (rg_w (c := 0) (d := 8) hy12 (by decide +kernel)) hI14)
def SPX9_about (S : mSp) : Prop := ∀ (n e : Int) (f0 f : mFn) (g : mGn) (K : mKr) (x1 : Int32), rI n e f0 f g → (∀ (y : Int32) (f' : mFn) (g' : mGn), rI n e f0 f' g' → K (some (.inl y)) f' g') → S [.inr 0, .inl x1] f g K
-- by hand: loop
theorem sfX9_about : SPX9_about spX9_about := by
  sorry
def SPX9_signed (S : mSp) : Prop := ∀ (n e : Int) (f0 f : mFn) (g : mGn) (K : mKr) (x0 : Int32), rg 0 255 x0 → rI n e f0 f g → (∀ (y : Int32) (f' : mFn) (g' : mGn), rg (-128) 127 y → rI n e f0 f' g' → K (some (.inl y)) f' g') → S [.inl x0] f g K
set_option maxRecDepth 100000 in
set_option maxHeartbeats 4000000 in
theorem sfX9_signed : SPX9_signed spX9_signed := by
  intro n e f0 f g K x0 hx0 hI hK
  refine ⟨rfl, fun X hX => ?_⟩
  have b16 : ∀ (s0 : Int32) (f : mFn) (g : mGn), rg (-128) 127 s0 → rI n e f0 f g → X 16 [] [.inl s0] f g := by
    intro s0 f g hs0 hI
    refine hX.1 2 _ rfl _ _ _ _ ?_
    exact And.intro mRt_i (hK _ _ _ (rg_w (c := (-128)) (d := 127) hs0 (by decide +kernel)) hI)
  refine hX.1 0 _ rfl _ _ _ _ ?_
  refine And.intro (fun c2 => ?_) (fun c2 => ?_)
  · -- 15
    refine hX.1 1 _ rfl _ _ _ _ ?_
    exact hX.2 _ _ [] _ _ _ mW0 (b16 _ _ _ (rg_w (c := (-128)) (d := 127) (show rg 0 127 _ from (rg_lt hx0 (rg_c (a := 128) (b := 128) (by decide +kernel)) c2 (by decide +kernel))) (by decide +kernel)) hI)
  · -- on
    exact hX.2 _ _ [] _ _ _ mW0 (b16 _ _ _ (rg_w (c := (-128)) (d := 127) (show rg (-128) (-1) _ from (rg_sub (show rg 128 255 _ from (rg_ge hx0 (rg_c (a := 128) (b := 128) (by decide +kernel)) (rg_nlt c2) (by decide +kernel))) (rg_c (a := 256) (b := 256) (by decide +kernel)) (by decide +kernel))) (by decide +kernel)) hI)
def SPX9_setFlag (S : mSp) : Prop := ∀ (n e : Int) (f0 f : mFn) (g : mGn) (K : mKr) (x1 : Int32) (x2 : Int32), rg 0 7 x1 → rg 0 1 x2 → rI n e f0 f g → (∀ (f' : mFn) (g' : mGn), rI n e f0 f' g' → K none f' g') → S [.inr 0, .inl x1, .inl x2] f g K
set_option maxRecDepth 100000 in
set_option maxHeartbeats 4000000 in
theorem sfX9_setFlag : SPX9_setFlag spX9_setFlag := by
  intro n e f0 f g K x1 x2 hx1 hx2 hI hK
  refine ⟨rfl, fun X hX => ?_⟩
  have b37 : ∀ (s1 : Int32) (s2 : Int32) (f : mFn) (g : mGn), rg 95 95 s1 → rg 0 255 s2 → rI n e f0 f g → X 37 [] [.inl s2, .inl s1, .inr 3] f g := by
    intro s1 s2 f g hs1 hs2 hI
    refine hX.1 2 _ rfl _ _ _ _ ?_
    refine And.intro (rg_in hs1 (by decide +kernel)) ?_
    exact And.intro mRt_v (hK _ _ (gI_a1 hI 2 1280 (lo := 0) (hi := 255) (rg_w (c := 0) (d := 255) hs2 (by decide +kernel)) (by decide +kernel)))
  refine hX.1 0 _ rfl _ _ _ _ ?_
  refine And.intro (fun c4 => ?_) (fun c4 => ?_)
  · -- 24
    refine hX.1 1 _ rfl _ _ _ _ ?_
    refine And.intro (rg_in (rg_c (a := 95) (b := 95) (by decide +kernel)) (by decide +kernel)) ?_
    exact hX.2 _ _ [] _ _ _ mW0 (b37 _ _ _ _ (rg_w (c := 95) (d := 95) (rg_c (a := 95) (b := 95) (by decide +kernel)) (by decide +kernel)) (rg_w (c := 0) (d := 255) (show rg 0 255 _ from (rg_andL (gI_g hI 2 3 1280 0 255 rfl (rg_in (rg_c (a := 95) (b := 95) (by decide +kernel)) (by decide +kernel))) (by decide +kernel))) (by decide +kernel)) hI)
  · -- on
    refine And.intro (rg_in (rg_c (a := 95) (b := 95) (by decide +kernel)) (by decide +kernel)) ?_
    exact hX.2 _ _ [] _ _ _ mW0 (b37 _ _ _ _ (rg_w (c := 95) (d := 95) (rg_c (a := 95) (b := 95) (by decide +kernel)) (by decide +kernel)) (rg_w (c := 0) (d := 255) (show rg 0 255 _ from (rg_or (k := 8) (gI_g hI 2 3 1280 0 255 rfl (rg_in (rg_c (a := 95) (b := 95) (by decide +kernel)) (by decide +kernel))) (show rg 0 128 _ from (rg_shlV 7 (rg_c (a := 1) (b := 1) (by decide +kernel)) hx1 (by decide +kernel))) (by decide +kernel))) (by decide +kernel)) hI)
def SPX9_zero (S : mSp) : Prop := ∀ (n e : Int) (f0 f : mFn) (g : mGn) (K : mKr) (x1 : Int32), rg 0 255 x1 → rI n e f0 f g → (∀ (f' : mFn) (g' : mGn), rI n e f0 f' g' → K none f' g') → S [.inr 0, .inl x1] f g K
set_option maxRecDepth 100000 in
set_option maxHeartbeats 4000000 in
theorem sfX9_zero : SPX9_zero spX9_zero := by
  intro n e f0 f g K x1 hx1 hI hK
  refine ⟨rfl, fun X hX => ?_⟩
  obtain ⟨S_X9_setFlag, k_X9_setFlag, S_X9_flag, k_X9_flag, hX⟩ : ∃ S_X9_setFlag, SPX9_setFlag S_X9_setFlag ∧ ∃ S_X9_flag, SPX9_flag S_X9_flag ∧ mR shM fdX9_zero [(172, 0, 2, 12, S_X9_setFlag), (163, 0, 1, 12, S_X9_flag)] bsX9_zero (fun r f g => mRt none r ∧ K r f g) X := ⟨spX9_setFlag, sfX9_setFlag, spX9_flag, sfX9_flag, hX⟩
  have b51 : ∀ (s1 : Int32) (s2 : Int32) (f : mFn) (g : mGn), rg 4 4 s1 → rg 0 1 s2 → rI n e f0 f g → X 51 [] [.inl s2, .inl s1, .inr 0] f g := by
    intro s1 s2 f g hs1 hs2 hI
    refine hX.1 6 _ rfl _ _ _ _ ?_
    refine k_X9_setFlag n _ f0 _ _ _ _ _ (rg_w (c := 0) (d := 7) hs1 (by decide +kernel)) (rg_w (c := 0) (d := 1) hs2 (by decide +kernel)) hI (fun f20 gf20 hI21 => ?_)
    exact And.intro mRt_v (hK _ _ hI21)
  have b28 : ∀ (s1 : Int32) (s2 : Int32) (f : mFn) (g : mGn), rg 1 1 s1 → rg 0 1 s2 → rI n e f0 f g → X 28 [(0, .inr 0)] [.inl s2, .inl s1, .inr 0] f g := by
    intro s1 s2 f g hs1 hs2 hI
    refine hX.1 4 _ rfl _ _ _ _ ?_
    refine k_X9_setFlag n _ f0 _ _ _ _ _ (rg_w (c := 0) (d := 7) hs1 (by decide +kernel)) (rg_w (c := 0) (d := 1) hs2 (by decide +kernel)) hI (fun f23 gf23 hI24 => ?_)
    refine k_X9_flag n _ f0 _ _ _ _ (rg_w (c := 0) (d := 7) (rg_c (a := 2) (b := 2) (by decide +kernel)) (by decide +kernel)) hI24 (fun y25 f26 gf26 hy25 hI27 => ?_)
    refine k_X9_flag n _ f0 _ _ _ _ (rg_w (c := 0) (d := 7) (rg_c (a := 3) (b := 3) (by decide +kernel)) (by decide +kernel)) hI27 (fun y28 f29 gf29 hy28 hI30 => ?_)
    refine And.intro (fun c31 => ?_) (fun c31 => ?_)
    · -- 50
      refine hX.1 5 _ rfl _ _ _ _ ?_
      exact hX.2 _ _ [] _ _ _ mW0 (b51 _ _ _ _ (rg_w (c := 4) (d := 4) (rg_c (a := 4) (b := 4) (by decide +kernel)) (by decide +kernel)) (rg_w (c := 0) (d := 1) (rg_c (a := 0) (b := 0) (by decide +kernel)) (by decide +kernel)) hI30)
    · -- on
      exact hX.2 _ _ [] _ _ _ mW0 (b51 _ _ _ _ (rg_w (c := 4) (d := 4) (rg_c (a := 4) (b := 4) (by decide +kernel)) (by decide +kernel)) (rg_w (c := 0) (d := 1) (rg_c (a := 1) (b := 1) (by decide +kernel)) (by decide +kernel)) hI30)
  have b14 : ∀ (a1 : Int32) (s1 : Int32) (s2 : Int32) (f : mFn) (g : mGn), rg 0 255 a1 → rg 2 2 s1 → rg 0 1 s2 → rI n e f0 f g → X 14 [(0, .inr 0), (1, .inl a1)] [.inl s2, .inl s1, .inr 0] f g := by
    intro a1 s1 s2 f g ha1 hs1 hs2 hI
    refine hX.1 2 _ rfl _ _ _ _ ?_
    refine k_X9_setFlag n _ f0 _ _ _ _ _ (rg_w (c := 0) (d := 7) hs1 (by decide +kernel)) (rg_w (c := 0) (d := 1) hs2 (by decide +kernel)) hI (fun f33 gf33 hI34 => ?_)
    refine And.intro (fun c35 => ?_) (fun c35 => ?_)
    · -- 27
      refine hX.1 3 _ rfl _ _ _ _ ?_
      exact hX.2 _ _ [(0, .inr 0)] _ _ _ (mWc rfl mW0) (b28 _ _ _ _ (rg_w (c := 1) (d := 1) (rg_c (a := 1) (b := 1) (by decide +kernel)) (by decide +kernel)) (rg_w (c := 0) (d := 1) (rg_c (a := 0) (b := 0) (by decide +kernel)) (by decide +kernel)) hI34)
    · -- on
      exact hX.2 _ _ [(0, .inr 0)] _ _ _ (mWc rfl mW0) (b28 _ _ _ _ (rg_w (c := 1) (d := 1) (rg_c (a := 1) (b := 1) (by decide +kernel)) (by decide +kernel)) (rg_w (c := 0) (d := 1) (rg_c (a := 1) (b := 1) (by decide +kernel)) (by decide +kernel)) hI34)
  refine hX.1 0 _ rfl _ _ _ _ ?_
  refine And.intro (fun c36 => ?_) (fun c36 => ?_)
  · -- 13
    refine hX.1 1 _ rfl _ _ _ _ ?_
    exact hX.2 _ _ [(0, .inr 0), (1, .inl _)] _ _ _ (mWc rfl (mWc rfl mW0)) (b14 _ _ _ _ _ (rg_w (c := 0) (d := 255) (show rg 0 127 _ from (rg_lt hx1 (rg_c (a := 128) (b := 128) (by decide +kernel)) c36 (by decide +kernel))) (by decide +kernel)) (rg_w (c := 2) (d := 2) (rg_c (a := 2) (b := 2) (by decide +kernel)) (by decide +kernel)) (rg_w (c := 0) (d := 1) (rg_c (a := 0) (b := 0) (by decide +kernel)) (by decide +kernel)) hI)
  · -- on
    exact hX.2 _ _ [(0, .inr 0), (1, .inl _)] _ _ _ (mWc rfl (mWc rfl mW0)) (b14 _ _ _ _ _ (rg_w (c := 0) (d := 255) (show rg 128 255 _ from (rg_ge hx1 (rg_c (a := 128) (b := 128) (by decide +kernel)) (rg_nlt c36) (by decide +kernel))) (by decide +kernel)) (rg_w (c := 2) (d := 2) (rg_c (a := 2) (b := 2) (by decide +kernel)) (by decide +kernel)) (rg_w (c := 0) (d := 1) (rg_c (a := 1) (b := 1) (by decide +kernel)) (by decide +kernel)) hI)
def SPX9_add (S : mSp) : Prop := ∀ (n e : Int) (f0 f : mFn) (g : mGn) (K : mKr) (x1 : Int32) (x2 : Int32) (x3 : Int32), rg 0 255 x1 → rg 0 255 x2 → rg 0 1 x3 → rI n e f0 f g → (∀ (y : Int32) (f' : mFn) (g' : mGn), rg 0 255 y → rI n e f0 f' g' → K (some (.inl y)) f' g') → S [.inr 0, .inl x1, .inl x2, .inl x3] f g K
set_option maxRecDepth 100000 in
set_option maxHeartbeats 4000000 in
theorem sfX9_add : SPX9_add spX9_add := by
  intro n e f0 f g K x1 x2 x3 hx1 hx2 hx3 hI hK
  refine ⟨rfl, fun X hX => ?_⟩
  obtain ⟨S_X9_signed, k_X9_signed, S_X9_setFlag, k_X9_setFlag, S_X9_zero, k_X9_zero, hX⟩ : ∃ S_X9_signed, SPX9_signed S_X9_signed ∧ ∃ S_X9_setFlag, SPX9_setFlag S_X9_setFlag ∧ ∃ S_X9_zero, SPX9_zero S_X9_zero ∧ mR shM fdX9_add [(250, 1, 1, 0, S_X9_signed), (172, 0, 2, 12, S_X9_setFlag), (253, 0, 1, 12, S_X9_zero)] bsX9_add (fun r f g => mRt (some .int) r ∧ K r f g) X := ⟨spX9_signed, sfX9_signed, spX9_setFlag, sfX9_setFlag, spX9_zero, sfX9_zero, hX⟩
  have b92 : ∀ (a4 : Int32) (s1 : Int32) (s2 : Int32) (f : mFn) (g : mGn), rg 0 255 a4 → rg 3 3 s1 → rg 0 1 s2 → rI n e f0 f g → X 92 [(0, .inr 0), (4, .inl a4)] [.inl s2, .inl s1, .inr 0] f g := by
    intro a4 s1 s2 f g ha4 hs1 hs2 hI
    refine hX.1 7 _ rfl _ _ _ _ ?_
    refine k_X9_setFlag n _ f0 _ _ _ _ _ (rg_w (c := 0) (d := 7) hs1 (by decide +kernel)) (rg_w (c := 0) (d := 1) hs2 (by decide +kernel)) hI (fun f24 gf24 hI25 => ?_)
    refine k_X9_zero n _ f0 _ _ _ _ (rg_w (c := 0) (d := 255) ha4 (by decide +kernel)) hI25 (fun f27 gf27 hI28 => ?_)
    exact And.intro mRt_i (hK _ _ _ (rg_w (c := 0) (d := 255) ha4 (by decide +kernel)) hI28)
  have b87 : ∀ (a4 : Int32) (s1 : Int32) (f : mFn) (g : mGn), rg 0 255 a4 → rg 3 3 s1 → rI n e f0 f g → X 87 [(0, .inr 0), (4, .inl a4)] [.inl s1, .inr 0] f g := by
    intro a4 s1 f g ha4 hs1 hI
    refine hX.1 5 _ rfl _ _ _ _ ?_
    exact hX.2 _ _ [(0, .inr 0), (4, .inl _)] _ _ _ (mWc rfl (mWc rfl mW0)) (b92 _ _ _ _ _ (rg_w (c := 0) (d := 255) ha4 (by decide +kernel)) (rg_w (c := 3) (d := 3) hs1 (by decide +kernel)) (rg_w (c := 0) (d := 1) (rg_c (a := 1) (b := 1) (by decide +kernel)) (by decide +kernel)) hI)
  have b68 : ∀ (a4 : Int32) (a5 : Int32) (s1 : Int32) (s2 : Int32) (f : mFn) (g : mGn), rg 0 255 a4 → rg (-256) 255 a5 → rg 0 0 s1 → rg 0 1 s2 → rI n e f0 f g → X 68 [(0, .inr 0), (4, .inl a4), (5, .inl a5)] [.inl s2, .inl s1, .inr 0] f g := by
    intro a4 a5 s1 s2 f g ha4 ha5 hs1 hs2 hI
    refine hX.1 4 _ rfl _ _ _ _ ?_
    refine k_X9_setFlag n _ f0 _ _ _ _ _ (rg_w (c := 0) (d := 7) hs1 (by decide +kernel)) (rg_w (c := 0) (d := 1) hs2 (by decide +kernel)) hI (fun f30 gf30 hI31 => ?_)
    refine And.intro (fun c32 => ?_) (fun c32 => ?_)
    · -- 87
      exact hX.2 _ _ [(0, .inr 0), (4, .inl _)] _ _ _ (mWc rfl (mWc rfl mW0)) (b87 _ _ _ _ (rg_w (c := 0) (d := 255) ha4 (by decide +kernel)) (rg_w (c := 3) (d := 3) (rg_c (a := 3) (b := 3) (by decide +kernel)) (by decide +kernel)) hI31)
    · -- on
      refine And.intro (fun c33 => ?_) (fun c33 => ?_)
      · -- 91
        refine hX.1 6 _ rfl _ _ _ _ ?_
        exact hX.2 _ _ [(0, .inr 0), (4, .inl _)] _ _ _ (mWc rfl (mWc rfl mW0)) (b92 _ _ _ _ _ (rg_w (c := 0) (d := 255) ha4 (by decide +kernel)) (rg_w (c := 3) (d := 3) (rg_c (a := 3) (b := 3) (by decide +kernel)) (by decide +kernel)) (rg_w (c := 0) (d := 1) (rg_c (a := 0) (b := 0) (by decide +kernel)) (by decide +kernel)) hI31)
      · -- on
        exact hX.2 _ _ [(0, .inr 0), (4, .inl _)] _ _ _ (mWc rfl (mWc rfl mW0)) (b87 _ _ _ _ (rg_w (c := 0) (d := 255) ha4 (by decide +kernel)) (rg_w (c := 3) (d := 3) (rg_c (a := 3) (b := 3) (by decide +kernel)) (by decide +kernel)) hI31)
  have b47 : ∀ (a1 : Int32) (a2 : Int32) (a3 : Int32) (a4 : Int32) (a5 : Int32) (s1 : Int32) (s2 : Int32) (f : mFn) (g : mGn), rg 0 255 a1 → rg 0 255 a2 → rg 0 1 a3 → rg 0 255 a4 → rg (-256) 255 a5 → rg 5 5 s1 → rg 0 1 s2 → rI n e f0 f g → X 47 [(0, .inr 0), (1, .inl a1), (2, .inl a2), (3, .inl a3), (4, .inl a4), (5, .inl a5)] [.inl s2, .inl s1, .inr 0] f g := by
    intro a1 a2 a3 a4 a5 s1 s2 f g ha1 ha2 ha3 ha4 ha5 hs1 hs2 hI
    refine hX.1 2 _ rfl _ _ _ _ ?_
    refine k_X9_setFlag n _ f0 _ _ _ _ _ (rg_w (c := 0) (d := 7) hs1 (by decide +kernel)) (rg_w (c := 0) (d := 1) hs2 (by decide +kernel)) hI (fun f35 gf35 hI36 => ?_)
    refine And.intro (fun c37 => ?_) (fun c37 => ?_)
    · -- 67
      refine hX.1 3 _ rfl _ _ _ _ ?_
      exact hX.2 _ _ [(0, .inr 0), (4, .inl _), (5, .inl _)] _ _ _ (mWc rfl (mWc rfl (mWc rfl mW0))) (b68 _ _ _ _ _ _ (rg_w (c := 0) (d := 255) ha4 (by decide +kernel)) (rg_w (c := (-256)) (d := 255) ha5 (by decide +kernel)) (rg_w (c := 0) (d := 0) (rg_c (a := 0) (b := 0) (by decide +kernel)) (by decide +kernel)) (rg_w (c := 0) (d := 1) (rg_c (a := 0) (b := 0) (by decide +kernel)) (by decide +kernel)) hI36)
    · -- on
      exact hX.2 _ _ [(0, .inr 0), (4, .inl _), (5, .inl _)] _ _ _ (mWc rfl (mWc rfl (mWc rfl mW0))) (b68 _ _ _ _ _ _ (rg_w (c := 0) (d := 255) ha4 (by decide +kernel)) (rg_w (c := (-256)) (d := 255) ha5 (by decide +kernel)) (rg_w (c := 0) (d := 0) (rg_c (a := 0) (b := 0) (by decide +kernel)) (by decide +kernel)) (rg_w (c := 0) (d := 1) (rg_c (a := 1) (b := 1) (by decide +kernel)) (by decide +kernel)) hI36)
  refine hX.1 0 _ rfl _ _ _ _ ?_
  refine k_X9_signed n _ f0 _ _ _ _ (rg_w (c := 0) (d := 255) hx1 (by decide +kernel)) hI (fun y38 f39 gf39 hy38 hI40 => ?_)
  refine k_X9_signed n _ f0 _ _ _ _ (rg_w (c := 0) (d := 255) hx2 (by decide +kernel)) hI40 (fun y41 f42 gf42 hy41 hI43 => ?_)
  refine And.intro (fun c44 => ?_) (fun c44 => ?_)
  · -- 46
    refine hX.1 1 _ rfl _ _ _ _ ?_
    exact hX.2 _ _ [(0, .inr 0), (1, .inl _), (2, .inl _), (3, .inl _), (4, .inl _), (5, .inl _)] _ _ _ (mWc rfl (mWc rfl (mWc rfl (mWc rfl (mWc rfl (mWc rfl mW0)))))) (b47 _ _ _ _ _ _ _ _ _ (rg_w (c := 0) (d := 255) hx1 (by decide +kernel)) (rg_w (c := 0) (d := 255) hx2 (by decide +kernel)) (rg_w (c := 0) (d := 1) hx3 (by decide +kernel)) (rg_w (c := 0) (d := 255) (show rg 0 255 _ from (rg_andR (rg_c (a := 255) (b := 255) (by decide +kernel)) (by decide +kernel))) (by decide +kernel)) (rg_w (c := (-256)) (d := 255) (show rg (-256) 255 _ from (rg_add (show rg (-256) 254 _ from (rg_add hy38 hy41 (by decide +kernel))) hx3 (by decide +kernel))) (by decide +kernel)) (rg_w (c := 5) (d := 5) (rg_c (a := 5) (b := 5) (by decide +kernel)) (by decide +kernel)) (rg_w (c := 0) (d := 1) (rg_c (a := 0) (b := 0) (by decide +kernel)) (by decide +kernel)) hI43)
  · -- on
    exact hX.2 _ _ [(0, .inr 0), (1, .inl _), (2, .inl _), (3, .inl _), (4, .inl _), (5, .inl _)] _ _ _ (mWc rfl (mWc rfl (mWc rfl (mWc rfl (mWc rfl (mWc rfl mW0)))))) (b47 _ _ _ _ _ _ _ _ _ (rg_w (c := 0) (d := 255) hx1 (by decide +kernel)) (rg_w (c := 0) (d := 255) hx2 (by decide +kernel)) (rg_w (c := 0) (d := 1) hx3 (by decide +kernel)) (rg_w (c := 0) (d := 255) (show rg 0 255 _ from (rg_andR (rg_c (a := 255) (b := 255) (by decide +kernel)) (by decide +kernel))) (by decide +kernel)) (rg_w (c := (-256)) (d := 255) (show rg (-256) 255 _ from (rg_add (show rg (-256) 254 _ from (rg_add hy38 hy41 (by decide +kernel))) hx3 (by decide +kernel))) (by decide +kernel)) (rg_w (c := 5) (d := 5) (rg_c (a := 5) (b := 5) (by decide +kernel)) (by decide +kernel)) (rg_w (c := 0) (d := 1) (rg_c (a := 1) (b := 1) (by decide +kernel)) (by decide +kernel)) hI43)
def SPX9_code (S : mSp) : Prop := ∀ (n e : Int) (f0 f : mFn) (g : mGn) (K : mKr) (x1 : Int32), rg 0 2047 x1 → rI n e f0 f g → (∀ (y : Int32) (f' : mFn) (g' : mGn), rg 0 65535 y → rI n e f0 f' g' → K (some (.inl y)) f' g') → S [.inr 0, .inl x1] f g K
set_option maxRecDepth 100000 in
set_option maxHeartbeats 4000000 in
theorem sfX9_code : SPX9_code spX9_code := by
  intro n e f0 f g K x1 hx1 hI hK
  refine ⟨rfl, fun X hX => ?_⟩
  have b37 : ∀ (s0 : Int32) (f : mFn) (g : mGn), rg 0 65535 s0 → rI n e f0 f g → X 37 [] [.inl s0] f g := by
    intro s0 f g hs0 hI
    refine hX.1 2 _ rfl _ _ _ _ ?_
    exact And.intro mRt_i (hK _ _ _ (rg_w (c := 0) (d := 65535) hs0 (by decide +kernel)) hI)
  have b31 : ∀ (a2 : Int32) (f : mFn) (g : mGn), rg 0 2047 a2 → rI n e f0 f g → X 31 [(0, .inr 0), (2, .inl a2)] [] f g := by
    intro a2 f g ha2 hI
    refine hX.1 1 _ rfl _ _ _ _ ?_
    refine And.intro (rg_in ha2 (by decide +kernel)) ?_
    exact hX.2 _ _ [] _ _ _ mW0 (b37 _ _ _ (rg_w (c := 0) (d := 65535) (gI_g hI 0 1 2048 0 65535 rfl (rg_in ha2 (by decide +kernel))) (by decide +kernel)) hI)
  refine hX.1 0 _ rfl _ _ _ _ ?_
  refine And.intro (fun c3 => ?_) (fun c3 => ?_)
  · -- 31
    exact hX.2 _ _ [(0, .inr 0), (2, .inl _)] _ _ _ (mWc rfl (mWc rfl mW0)) (b31 _ _ _ (rg_w (c := 0) (d := 2047) (show rg 0 2047 _ from (rg_andR (rg_c (a := 2047) (b := 2047) (by decide +kernel)) (by decide +kernel))) (by decide +kernel)) hI)
  · -- on
    refine And.intro (rg_in (rg_c (a := 87) (b := 87) (by decide +kernel)) (by decide +kernel)) ?_
    refine And.intro (fun c4 => ?_) (fun c4 => ?_)
    · -- 31
      exact hX.2 _ _ [(0, .inr 0), (2, .inl _)] _ _ _ (mWc rfl (mWc rfl mW0)) (b31 _ _ _ (rg_w (c := 0) (d := 2047) (show rg 0 2047 _ from (rg_andR (rg_c (a := 2047) (b := 2047) (by decide +kernel)) (by decide +kernel))) (by decide +kernel)) hI)
    · -- on
      exact hX.2 _ _ [] _ _ _ mW0 (b37 _ _ _ (rg_w (c := 0) (d := 65535) (rg_c (a := 65535) (b := 65535) (by decide +kernel)) (by decide +kernel)) hI)
