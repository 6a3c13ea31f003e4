def SPJ6_bitCount_0f7a4 (S : mSp) : Prop := ∀ (n e : Int) (f0 f : mFn) (g : mGn) (K : mKr) (x0 : Int32), cI n e f0 f g → (∀ (y : Int32) (f' : mFn) (g' : mGn), rg 0 63 y → cI n e f0 f' g' → K (some (.inl y)) f' g') → S [.inl x0] f g K
set_option maxRecDepth 100000 in
set_option maxHeartbeats 4000000 in
theorem sfJ6_bitCount_0f7a4 : SPJ6_bitCount_0f7a4 spJ6_bitCount_0f7a4 := by
  intro n e f0 f g K x0  hI hK
  refine ⟨rfl, fun X hX => ?_⟩
  refine hX.1 0 _ rfl _ _ _ _ ?_
  exact And.intro mRt_i (hK _ _ _ (rg_w (c := 0) (d := 63) (show rg 0 63 _ from (rg_andR (rg_c (a := 63) (b := 63) (by decide +kernel)) (by decide +kernel))) (by decide +kernel)) hI)
def SPJ7_fill_53178 (S : mSp) : Prop := ∀ (n e : Int) (f0 f : mFn) (g : mGn) (K : mKr) (x1 : Int32), rg 0 0 x1 → cI n e f0 f g → (∀ (f' : mFn) (g' : mGn), cI n e f0 f' g' → K none f' g') → S [.inr 9, .inl x1] f g K
-- by hand: loop
theorem sfJ7_fill_53178 : SPJ7_fill_53178 spJ7_fill_53178 := by
  sorry
def SPJ7_rangeCheck_23922 (S : mSp) : Prop := ∀ (n e : Int) (f0 f : mFn) (g : mGn) (K : mKr) (x0 : Int32) (x1 : Int32) (x2 : Int32), rg 1280 1280 x0 → rg 0 2016 x1 → rg 32 2048 x2 → cI n e f0 f g → (∀ (f' : mFn) (g' : mGn), cI n e f0 f' g' → K none f' g') → S [.inl x0, .inl x1, .inl x2] f g K
-- by hand: jump out
theorem sfJ7_rangeCheck_23922 : SPJ7_rangeCheck_23922 spJ7_rangeCheck_23922 := by
  sorry
def SPJ7_fill_fda19 (S : mSp) : Prop := ∀ (n e : Int) (f0 f : mFn) (g : mGn) (K : mKr) (x1 : Int32) (x2 : Int32) (x3 : Int32), rg 0 2016 x1 → rg 32 2048 x2 → rg 0 65535 x3 → cI n e f0 f g → (∀ (f' : mFn) (g' : mGn), cI n e f0 f' g' → K none f' g') → S [.inr 9, .inl x1, .inl x2, .inl x3] f g K
-- by hand: index 0..2016 of 1280 at 20
theorem sfJ7_fill_fda19 : SPJ7_fill_fda19 spJ7_fill_fda19 := by
  sorry
def SPX0_signed (S : mSp) : Prop := ∀ (n e : Int) (f0 f : mFn) (g : mGn) (K : mKr) (x0 : Int32), cI n e f0 f g → (∀ (y : Int32) (f' : mFn) (g' : mGn), rg (-2147483648) 2147483391 y → cI n e f0 f' g' → K (some (.inl y)) f' g') → S [.inl x0] f g K
set_option maxRecDepth 100000 in
set_option maxHeartbeats 4000000 in
theorem sfX0_signed : SPX0_signed spX0_signed := by
  intro n e f0 f g K x0  hI hK
  refine ⟨rfl, fun X hX => ?_⟩
  have b16 : ∀ (s0 : Int32) (f : mFn) (g : mGn), rg (-2147483648) 2147483391 s0 → cI n e f0 f g → X 16 [] [.inl s0] f g := by
    intro s0 f g hs0 hI
    refine hX.1 2 _ rfl _ _ _ _ ?_
    exact And.intro mRt_i (hK _ _ _ (rg_w (c := (-2147483648)) (d := 2147483391) hs0 (by decide +kernel)) hI)
  refine hX.1 0 _ rfl _ _ _ _ ?_
  refine And.intro (fun c2 => ?_) (fun c2 => ?_)
  · -- 11
    refine hX.1 1 _ rfl _ _ _ _ ?_
    exact hX.2 _ _ [] _ _ _ mW0 (b16 _ _ _ (rg_w (c := (-2147483648)) (d := 2147483391) (show rg (-128) 2147483391 _ from (rg_sub (show rg 128 2147483647 _ from (rg_ge (rg_all _) (rg_c (a := 128) (b := 128) (by decide +kernel)) c2 (by decide +kernel))) (rg_c (a := 256) (b := 256) (by decide +kernel)) (by decide +kernel))) (by decide +kernel)) hI)
  · -- on
    exact hX.2 _ _ [] _ _ _ mW0 (b16 _ _ _ (rg_w (c := (-2147483648)) (d := 2147483391) (show rg (-2147483648) 127 _ from (rg_lt (rg_all _) (rg_c (a := 128) (b := 128) (by decide +kernel)) (rg_nle c2) (by decide +kernel))) (by decide +kernel)) hI)
def SPX0_signs (S : mSp) : Prop := ∀ (n e : Int) (f0 f : mFn) (g : mGn) (K : mKr) (x0 : Int32) (x1 : Int32) (x2 : Int32), rg 128 32768 x1 → rg 0 1 x2 → cI n e f0 f g → (∀ (y : Int32) (f' : mFn) (g' : mGn), rg 0 31 y → cI n e f0 f' g' → K (some (.inl y)) f' g') → S [.inl x0, .inl x1, .inl x2] f g K
set_option maxRecDepth 100000 in
set_option maxHeartbeats 4000000 in
theorem sfX0_signs : SPX0_signs spX0_signs := by
  intro n e f0 f g K x0 x1 x2 hx1 hx2 hI hK
  refine ⟨rfl, fun X hX => ?_⟩
  have b53 : ∀ (s0 : Int32) (s1 : Int32) (f : mFn) (g : mGn), rg 0 15 s0 → rg 0 16 s1 → cI n e f0 f g → X 53 [] [.inl s1, .inl s0] f g := by
    intro s0 s1 f g hs0 hs1 hI
    refine hX.1 10 _ rfl _ _ _ _ ?_
    exact And.intro mRt_i (hK _ _ _ (rg_w (c := 0) (d := 31) (show rg 0 31 _ from (rg_or (k := 5) hs0 hs1 (by decide +kernel))) (by decide +kernel)) hI)
  have b41 : ∀ (a2 : Int32) (a3 : Int32) (s0 : Int32) (s1 : Int32) (f : mFn) (g : mGn), rg 0 1 a2 → rg 0 1 a3 → rg 0 7 s0 → rg 0 8 s1 → cI n e f0 f g → X 41 [(2, .inl a2), (3, .inl a3)] [.inl s1, .inl s0] f g := by
    intro a2 a3 s0 s1 f g ha2 ha3 hs0 hs1 hI
    refine hX.1 8 _ rfl _ _ _ _ ?_
    refine And.intro (fun c6 => ?_) (fun c6 => ?_)
    · -- 52
      refine hX.1 9 _ rfl _ _ _ _ ?_
      exact hX.2 _ _ [] _ _ _ mW0 (b53 _ _ _ _ (rg_w (c := 0) (d := 15) (show rg 0 15 _ from (rg_or (k := 4) hs0 hs1 (by decide +kernel))) (by decide +kernel)) (rg_w (c := 0) (d := 16) (rg_c (a := 0) (b := 0) (by decide +kernel)) (by decide +kernel)) hI)
    · -- on
      exact hX.2 _ _ [] _ _ _ mW0 (b53 _ _ _ _ (rg_w (c := 0) (d := 15) (show rg 0 15 _ from (rg_or (k := 4) hs0 hs1 (by decide +kernel))) (by decide +kernel)) (rg_w (c := 0) (d := 16) (rg_c (a := 16) (b := 16) (by decide +kernel)) (by decide +kernel)) hI)
  have b30 : ∀ (a2 : Int32) (a3 : Int32) (s0 : Int32) (s1 : Int32) (f : mFn) (g : mGn), rg 0 1 a2 → rg 0 1 a3 → rg 0 2 s0 → rg 0 4 s1 → cI n e f0 f g → X 30 [(2, .inl a2), (3, .inl a3)] [.inl s1, .inl s0] f g := by
    intro a2 a3 s0 s1 f g ha2 ha3 hs0 hs1 hI
    refine hX.1 6 _ rfl _ _ _ _ ?_
    refine And.intro (fun c7 => ?_) (fun c7 => ?_)
    · -- 40
      refine hX.1 7 _ rfl _ _ _ _ ?_
      exact hX.2 _ _ [(2, .inl _), (3, .inl _)] _ _ _ (mWc rfl (mWc rfl mW0)) (b41 _ _ _ _ _ _ (rg_w (c := 0) (d := 1) (show rg 0 0 _ from (rg_eq (rg_c (a := 0) (b := 0) (by decide +kernel)) c7)) (by decide +kernel)) (rg_w (c := 0) (d := 1) ha3 (by decide +kernel)) (rg_w (c := 0) (d := 7) (show rg 0 7 _ from (rg_or (k := 3) hs0 hs1 (by decide +kernel))) (by decide +kernel)) (rg_w (c := 0) (d := 8) (rg_c (a := 0) (b := 0) (by decide +kernel)) (by decide +kernel)) hI)
    · -- on
      exact hX.2 _ _ [(2, .inl _), (3, .inl _)] _ _ _ (mWc rfl (mWc rfl mW0)) (b41 _ _ _ _ _ _ (rg_w (c := 0) (d := 1) (show rg 1 1 _ from (rg_neL ha2 (rg_c (a := 0) (b := 0) (by decide +kernel)) c7 (by decide +kernel))) (by decide +kernel)) (rg_w (c := 0) (d := 1) ha3 (by decide +kernel)) (rg_w (c := 0) (d := 7) (show rg 0 7 _ from (rg_or (k := 3) hs0 hs1 (by decide +kernel))) (by decide +kernel)) (rg_w (c := 0) (d := 8) (rg_c (a := 8) (b := 8) (by decide +kernel)) (by decide +kernel)) hI)
  have b21 : ∀ (a2 : Int32) (a3 : Int32) (s0 : Int32) (f : mFn) (g : mGn), rg 0 1 a2 → rg 0 1 a3 → rg 0 2 s0 → cI n e f0 f g → X 21 [(2, .inl a2), (3, .inl a3)] [.inl s0] f g := by
    intro a2 a3 s0 f g ha2 ha3 hs0 hI
    refine hX.1 4 _ rfl _ _ _ _ ?_
    refine And.intro (fun c8 => ?_) (fun c8 => ?_)
    · -- 29
      refine hX.1 5 _ rfl _ _ _ _ ?_
      exact hX.2 _ _ [(2, .inl _), (3, .inl _)] _ _ _ (mWc rfl (mWc rfl mW0)) (b30 _ _ _ _ _ _ (rg_w (c := 0) (d := 1) ha2 (by decide +kernel)) (rg_w (c := 0) (d := 1) (show rg 0 0 _ from (rg_eq (rg_c (a := 0) (b := 0) (by decide +kernel)) c8)) (by decide +kernel)) (rg_w (c := 0) (d := 2) hs0 (by decide +kernel)) (rg_w (c := 0) (d := 4) (rg_c (a := 0) (b := 0) (by decide +kernel)) (by decide +kernel)) hI)
    · -- on
      exact hX.2 _ _ [(2, .inl _), (3, .inl _)] _ _ _ (mWc rfl (mWc rfl mW0)) (b30 _ _ _ _ _ _ (rg_w (c := 0) (d := 1) ha2 (by decide +kernel)) (rg_w (c := 0) (d := 1) (show rg 1 1 _ from (rg_neL ha3 (rg_c (a := 0) (b := 0) (by decide +kernel)) c8 (by decide +kernel))) (by decide +kernel)) (rg_w (c := 0) (d := 2) hs0 (by decide +kernel)) (rg_w (c := 0) (d := 4) (rg_c (a := 4) (b := 4) (by decide +kernel)) (by decide +kernel)) hI)
  have b11 : ∀ (a0 : Int32) (a2 : Int32) (s0 : Int32) (f : mFn) (g : mGn), rg 0 1 a2 → rg 0 1 s0 → cI n e f0 f g → X 11 [(0, .inl a0), (2, .inl a2)] [.inl s0] f g := by
    intro a0 a2 s0 f g ha2 hs0 hI
    refine hX.1 2 _ rfl _ _ _ _ ?_
    refine And.intro (fun c9 => ?_) (fun c9 => ?_)
    · -- 20
      refine hX.1 3 _ rfl _ _ _ _ ?_
      exact hX.2 _ _ [(2, .inl _), (3, .inl _)] _ _ _ (mWc rfl (mWc rfl mW0)) (b21 _ _ _ _ _ (rg_w (c := 0) (d := 1) ha2 (by decide +kernel)) (rg_w (c := 0) (d := 1) hs0 (by decide +kernel)) (rg_w (c := 0) (d := 2) (rg_c (a := 0) (b := 0) (by decide +kernel)) (by decide +kernel)) hI)
    · -- on
      exact hX.2 _ _ [(2, .inl _), (3, .inl _)] _ _ _ (mWc rfl (mWc rfl mW0)) (b21 _ _ _ _ _ (rg_w (c := 0) (d := 1) ha2 (by decide +kernel)) (rg_w (c := 0) (d := 1) hs0 (by decide +kernel)) (rg_w (c := 0) (d := 2) (rg_c (a := 2) (b := 2) (by decide +kernel)) (by decide +kernel)) hI)
  refine hX.1 0 _ rfl _ _ _ _ ?_
  refine And.intro (fun c10 => ?_) (fun c10 => ?_)
  · -- 10
    refine hX.1 1 _ rfl _ _ _ _ ?_
    exact hX.2 _ _ [(0, .inl _), (2, .inl _)] _ _ _ (mWc rfl (mWc rfl mW0)) (b11 _ _ _ _ _ (rg_w (c := 0) (d := 1) hx2 (by decide +kernel)) (rg_w (c := 0) (d := 1) (rg_c (a := 0) (b := 0) (by decide +kernel)) (by decide +kernel)) hI)
  · -- on
    exact hX.2 _ _ [(0, .inl _), (2, .inl _)] _ _ _ (mWc rfl (mWc rfl mW0)) (b11 _ _ _ _ _ (rg_w (c := 0) (d := 1) hx2 (by decide +kernel)) (rg_w (c := 0) (d := 1) (rg_c (a := 1) (b := 1) (by decide +kernel)) (by decide +kernel)) hI)
def SPX0_mark (S : mSp) : Prop := ∀ (n e : Int) (f0 f : mFn) (g : mGn) (K : mKr) (x1 : Int32) (x2 : Int32), rg 1 63 x1 → rg 0 63 x2 → cI n e f0 f g → (∀ (f' : mFn) (g' : mGn), cI n e f0 f' g' → K none f' g') → S [.inr 8, .inl x1, .inl x2] f g K
set_option maxRecDepth 100000 in
set_option maxHeartbeats 4000000 in
theorem sfX0_mark : SPX0_mark spX0_mark := by
  intro n e f0 f g K x1 x2 hx1 hx2 hI hK
  refine ⟨rfl, fun X hX => ?_⟩
  refine hX.1 0 _ rfl _ _ _ _ ?_
  refine And.intro (rg_in (rg_c (a := 95) (b := 95) (by decide +kernel)) (by decide +kernel)) ?_
  refine And.intro (rg_in (rg_c (a := 95) (b := 95) (by decide +kernel)) (by decide +kernel)) ?_
  exact And.intro mRt_v (hK _ _ (gI_a0 hI (by decide +kernel)))
def SPX0_add (S : mSp) : Prop := ∀ (n e : Int) (f0 f : mFn) (g : mGn) (K : mKr) (x1 : Int32) (x2 : Int32) (x3 : Int32), rg 0 1 x3 → cI n e f0 f g → (∀ (y : Int32) (f' : mFn) (g' : mGn), rg 0 255 y → cI n e f0 f' g' → K (some (.inl y)) f' g') → S [.inr 8, .inl x1, .inl x2, .inl x3] f g K
set_option maxRecDepth 100000 in
set_option maxHeartbeats 4000000 in
theorem sfX0_add : SPX0_add spX0_add := by
  intro n e f0 f g K x1 x2 x3 hx3 hI hK
  refine ⟨rfl, fun X hX => ?_⟩
  obtain ⟨S_X0_signed, k_X0_signed, S_X0_signs, k_X0_signs, S_X0_mark, k_X0_mark, hX⟩ : ∃ S_X0_signed, SPX0_signed S_X0_signed ∧ ∃ S_X0_signs, SPX0_signs S_X0_signs ∧ ∃ S_X0_mark, SPX0_mark S_X0_mark ∧ mR shC fdX0_add [(15, 1, 1, 0, S_X0_signed), (19, 1, 3, 0, S_X0_signs), (23, 0, 2, 3, S_X0_mark)] bsX0_add (fun r f g => mRt (some .int) r ∧ K r f g) X := ⟨spX0_signed, sfX0_signed, spX0_signs, sfX0_signs, spX0_mark, sfX0_mark, hX⟩
  have b90 : ∀ (a4 : Int32) (a6 : Int32) (f : mFn) (g : mGn), rg 0 63 a6 → cI n e f0 f g → X 90 [(0, .inr 8), (4, .inl a4), (6, .inl a6)] [] f g := by
    intro a4 a6 f g ha6 hI
    refine hX.1 5 _ rfl _ _ _ _ ?_
    refine k_X0_mark n _ f0 _ _ _ _ _ (rg_w (c := 1) (d := 63) (rg_c (a := 63) (b := 63) (by decide +kernel)) (by decide +kernel)) (rg_w (c := 0) (d := 63) ha6 (by decide +kernel)) hI (fun f18 gf18 hI19 => ?_)
    exact And.intro mRt_i (hK _ _ _ (rg_w (c := 0) (d := 255) (show rg 0 255 _ from (rg_andR (rg_c (a := 255) (b := 255) (by decide +kernel)) (by decide +kernel))) (by decide +kernel)) hI19)
  have b67 : ∀ (a1 : Int32) (a2 : Int32) (a3 : Int32) (a4 : Int32) (a6 : Int32) (f : mFn) (g : mGn), rg 0 1 a3 → rg 0 31 a6 → cI n e f0 f g → X 67 [(0, .inr 8), (1, .inl a1), (2, .inl a2), (3, .inl a3), (4, .inl a4), (6, .inl a6)] [] f g := by
    intro a1 a2 a3 a4 a6 f g ha3 ha6 hI
    refine hX.1 4 _ rfl _ _ _ _ ?_
    refine And.intro (fun c20 => ?_) (fun c20 => ?_)
    · -- 90
      exact hX.2 _ _ [(0, .inr 8), (4, .inl _), (6, .inl _)] _ _ _ (mWc rfl (mWc rfl (mWc rfl mW0))) (b90 _ _ _ _ (rg_w (c := 0) (d := 63) ha6 (by decide +kernel)) hI)
    · -- on
      exact hX.2 _ _ [(0, .inr 8), (4, .inl _), (6, .inl _)] _ _ _ (mWc rfl (mWc rfl (mWc rfl mW0))) (b90 _ _ _ _ (rg_w (c := 0) (d := 63) (show rg 0 63 _ from (rg_or (k := 6) ha6 (rg_c (a := 32) (b := 32) (by decide +kernel)) (by decide +kernel))) (by decide +kernel)) hI)
  have b48 : ∀ (a1 : Int32) (a2 : Int32) (a3 : Int32) (a4 : Int32) (s0 : Int32) (s1 : Int32) (s2 : Int32) (f : mFn) (g : mGn), rg 0 1 a3 → rg 0 255 s0 → rg 128 128 s1 → rg 0 1 s2 → cI n e f0 f g → X 48 [(0, .inr 8), (1, .inl a1), (2, .inl a2), (3, .inl a3), (4, .inl a4)] [.inl s2, .inl s1, .inl s0] f g := by
    intro a1 a2 a3 a4 s0 s1 s2 f g ha3 hs0 hs1 hs2 hI
    refine hX.1 3 _ rfl _ _ _ _ ?_
    refine k_X0_signs n _ f0 _ _ _ _ _ _ (rg_w (c := 128) (d := 32768) hs1 (by decide +kernel)) (rg_w (c := 0) (d := 1) hs2 (by decide +kernel)) hI (fun y21 f22 gf22 hy21 hI23 => ?_)
    refine And.intro (fun c24 => ?_) (fun c24 => ?_)
    · -- 67
      exact hX.2 _ _ [(0, .inr 8), (1, .inl _), (2, .inl _), (3, .inl _), (4, .inl _), (6, .inl _)] _ _ _ (mWc rfl (mWc rfl (mWc rfl (mWc rfl (mWc rfl (mWc rfl mW0)))))) (b67 _ _ _ _ _ _ _ (rg_w (c := 0) (d := 1) ha3 (by decide +kernel)) (rg_w (c := 0) (d := 31) hy21 (by decide +kernel)) hI23)
    · -- on
      exact hX.2 _ _ [(0, .inr 8), (1, .inl _), (2, .inl _), (3, .inl _), (4, .inl _), (6, .inl _)] _ _ _ (mWc rfl (mWc rfl (mWc rfl (mWc rfl (mWc rfl (mWc rfl mW0)))))) (b67 _ _ _ _ _ _ _ (rg_w (c := 0) (d := 1) ha3 (by decide +kernel)) (rg_w (c := 0) (d := 31) (show rg 0 31 _ from (rg_or (k := 5) hy21 (rg_c (a := 1) (b := 1) (by decide +kernel)) (by decide +kernel))) (by decide +kernel)) hI23)
  have b43 : ∀ (a1 : Int32) (a2 : Int32) (a3 : Int32) (a4 : Int32) (s0 : Int32) (s1 : Int32) (f : mFn) (g : mGn), rg 0 1 a3 → rg 0 255 s0 → rg 128 128 s1 → cI n e f0 f g → X 43 [(0, .inr 8), (1, .inl a1), (2, .inl a2), (3, .inl a3), (4, .inl a4)] [.inl s1, .inl s0] f g := by
    intro a1 a2 a3 a4 s0 s1 f g ha3 hs0 hs1 hI
    refine hX.1 1 _ rfl _ _ _ _ ?_
    exact hX.2 _ _ [(0, .inr 8), (1, .inl _), (2, .inl _), (3, .inl _), (4, .inl _)] _ _ _ (mWc rfl (mWc rfl (mWc rfl (mWc rfl (mWc rfl mW0))))) (b48 _ _ _ _ _ _ _ _ _ (rg_w (c := 0) (d := 1) ha3 (by decide +kernel)) (rg_w (c := 0) (d := 255) hs0 (by decide +kernel)) (rg_w (c := 128) (d := 128) hs1 (by decide +kernel)) (rg_w (c := 0) (d := 1) (rg_c (a := 1) (b := 1) (by decide +kernel)) (by decide +kernel)) hI)
  refine hX.1 0 _ rfl _ _ _ _ ?_
  refine k_X0_signed n _ f0 _ _ _ _  hI (fun y25 f26 gf26 hy25 hI27 => ?_)
  refine k_X0_signed n _ f0 _ _ _ _  hI27 (fun y28 f29 gf29 hy28 hI30 => ?_)
  refine And.intro (fun c31 => ?_) (fun c31 => ?_)
  · -- 43
    exact hX.2 _ _ [(0, .inr 8), (1, .inl _), (2, .inl _), (3, .inl _), (4, .inl _)] _ _ _ (mWc rfl (mWc rfl (mWc rfl (mWc rfl (mWc rfl mW0))))) (b43 _ _ _ _ _ _ _ _ (rg_w (c := 0) (d := 1) hx3 (by decide +kernel)) (rg_w (c := 0) (d := 255) (show rg 0 255 _ from (rg_andR (rg_c (a := 255) (b := 255) (by decide +kernel)) (by decide +kernel))) (by decide +kernel)) (rg_w (c := 128) (d := 128) (rg_c (a := 128) (b := 128) (by decide +kernel)) (by decide +kernel)) hI30)
  · -- on
    refine And.intro (fun c32 => ?_) (fun c32 => ?_)
    · -- 47
      refine hX.1 2 _ rfl _ _ _ _ ?_
      exact hX.2 _ _ [(0, .inr 8), (1, .inl _), (2, .inl _), (3, .inl _), (4, .inl _)] _ _ _ (mWc rfl (mWc rfl (mWc rfl (mWc rfl (mWc rfl mW0))))) (b48 _ _ _ _ _ _ _ _ _ (rg_w (c := 0) (d := 1) hx3 (by decide +kernel)) (rg_w (c := 0) (d := 255) (show rg 0 255 _ from (rg_andR (rg_c (a := 255) (b := 255) (by decide +kernel)) (by decide +kernel))) (by decide +kernel)) (rg_w (c := 128) (d := 128) (rg_c (a := 128) (b := 128) (by decide +kernel)) (by decide +kernel)) (rg_w (c := 0) (d := 1) (rg_c (a := 0) (b := 0) (by decide +kernel)) (by decide +kernel)) hI30)
    · -- on
      exact hX.2 _ _ [(0, .inr 8), (1, .inl _), (2, .inl _), (3, .inl _), (4, .inl _)] _ _ _ (mWc rfl (mWc rfl (mWc rfl (mWc rfl (mWc rfl mW0))))) (b43 _ _ _ _ _ _ _ _ (rg_w (c := 0) (d := 1) hx3 (by decide +kernel)) (rg_w (c := 0) (d := 255) (show rg 0 255 _ from (rg_andR (rg_c (a := 255) (b := 255) (by decide +kernel)) (by decide +kernel))) (by decide +kernel)) (rg_w (c := 128) (d := 128) (rg_c (a := 128) (b := 128) (by decide +kernel)) (by decide +kernel)) hI30)
def SPX0_markPair (S : mSp) : Prop := ∀ (n e : Int) (f0 f : mFn) (g : mGn) (K : mKr) (x1 : Int32) (x2 : Int32) (x3 : Int32), rg 0 65535 x1 → rg 0 1 x2 → rg 0 1 x3 → cI n e f0 f g → (∀ (f' : mFn) (g' : mGn), cI n e f0 f' g' → K none f' g') → S [.inr 8, .inl x1, .inl x2, .inl x3] f g K
set_option maxRecDepth 100000 in
set_option maxHeartbeats 4000000 in
theorem sfX0_markPair : SPX0_markPair spX0_markPair := by
  intro n e f0 f g K x1 x2 x3 hx1 hx2 hx3 hI hK
  refine ⟨rfl, fun X hX => ?_⟩
  obtain ⟨S_X0_signs, k_X0_signs, S_X0_mark, k_X0_mark, hX⟩ : ∃ S_X0_signs, SPX0_signs S_X0_signs ∧ ∃ S_X0_mark, SPX0_mark S_X0_mark ∧ mR shC fdX0_markPair [(19, 1, 3, 0, S_X0_signs), (23, 0, 2, 3, S_X0_mark)] bsX0_markPair (fun r f g => mRt none r ∧ K r f g) X := ⟨spX0_signs, sfX0_signs, spX0_mark, sfX0_mark, hX⟩
  have b19 : ∀ (s1 : Int32) (s2 : Int32) (s3 : Int32) (f : mFn) (g : mGn), rg 31 31 s1 → rg 0 31 s2 → rg 0 1 s3 → cI n e f0 f g → X 19 [] [.inl s3, .inl s2, .inl s1, .inr 8] f g := by
    intro s1 s2 s3 f g hs1 hs2 hs3 hI
    refine hX.1 2 _ rfl _ _ _ _ ?_
    refine k_X0_mark n _ f0 _ _ _ _ _ (rg_w (c := 1) (d := 63) hs1 (by decide +kernel)) (rg_w (c := 0) (d := 63) (show rg 0 31 _ from (rg_or (k := 5) hs2 hs3 (by decide +kernel))) (by decide +kernel)) hI (fun f9 gf9 hI10 => ?_)
    exact And.intro mRt_v (hK _ _ hI10)
  refine hX.1 0 _ rfl _ _ _ _ ?_
  refine k_X0_signs n _ f0 _ _ _ _ _ _ (rg_w (c := 128) (d := 32768) (rg_c (a := 32768) (b := 32768) (by decide +kernel)) (by decide +kernel)) (rg_w (c := 0) (d := 1) hx2 (by decide +kernel)) hI (fun y11 f12 gf12 hy11 hI13 => ?_)
  refine And.intro (fun c14 => ?_) (fun c14 => ?_)
  · -- 18
    refine hX.1 1 _ rfl _ _ _ _ ?_
    exact hX.2 _ _ [] _ _ _ mW0 (b19 _ _ _ _ _ (rg_w (c := 31) (d := 31) (rg_c (a := 31) (b := 31) (by decide +kernel)) (by decide +kernel)) (rg_w (c := 0) (d := 31) hy11 (by decide +kernel)) (rg_w (c := 0) (d := 1) (rg_c (a := 0) (b := 0) (by decide +kernel)) (by decide +kernel)) hI13)
  · -- on
    exact hX.2 _ _ [] _ _ _ mW0 (b19 _ _ _ _ _ (rg_w (c := 31) (d := 31) (rg_c (a := 31) (b := 31) (by decide +kernel)) (by decide +kernel)) (rg_w (c := 0) (d := 31) hy11 (by decide +kernel)) (rg_w (c := 0) (d := 1) (rg_c (a := 1) (b := 1) (by decide +kernel)) (by decide +kernel)) hI13)
def SPX0_addToPair (S : mSp) : Prop := ∀ (n e : Int) (f0 f : mFn) (g : mGn) (K : mKr) (x1 : Int32) (x2 : Int32), rg 0 63 x2 → cI n e f0 f g → (∀ (y : Int32) (f' : mFn) (g' : mGn), rg 0 65535 y → cI n e f0 f' g' → K (some (.inl y)) f' g') → S [.inr 8, .inl x1, .inl x2] f g K
set_option maxRecDepth 100000 in
set_option maxHeartbeats 4000000 in
theorem sfX0_addToPair : SPX0_addToPair spX0_addToPair := by
  intro n e f0 f g K x1 x2 hx2 hI hK
  refine ⟨rfl, fun X hX => ?_⟩
  obtain ⟨S_X0_markPair, k_X0_markPair, hX⟩ : ∃ S_X0_markPair, SPX0_markPair S_X0_markPair ∧ mR shC fdX0_addToPair [(40, 0, 3, 3, S_X0_markPair)] bsX0_addToPair (fun r f g => mRt (some .int) r ∧ K r f g) X := ⟨spX0_markPair, sfX0_markPair, hX⟩
  have b41 : ∀ (a4 : Int32) (s1 : Int32) (s2 : Int32) (s3 : Int32) (f : mFn) (g : mGn), rg 0 65535 a4 → rg 0 65535 s1 → rg 0 1 s2 → rg 0 1 s3 → cI n e f0 f g → X 41 [(4, .inl a4)] [.inl s3, .inl s2, .inl s1, .inr 8] f g := by
    intro a4 s1 s2 s3 f g ha4 hs1 hs2 hs3 hI
    refine hX.1 4 _ rfl _ _ _ _ ?_
    refine k_X0_markPair n _ f0 _ _ _ _ _ _ (rg_w (c := 0) (d := 65535) hs1 (by decide +kernel)) (rg_w (c := 0) (d := 1) hs2 (by decide +kernel)) (rg_w (c := 0) (d := 1) hs3 (by decide +kernel)) hI (fun f7 gf7 hI8 => ?_)
    exact And.intro mRt_i (hK _ _ _ (rg_w (c := 0) (d := 65535) ha4 (by decide +kernel)) hI8)
  have b30 : ∀ (a3 : Int32) (a4 : Int32) (s1 : Int32) (s2 : Int32) (f : mFn) (g : mGn), rg 0 65535 a4 → rg 0 65535 s1 → rg 0 1 s2 → cI n e f0 f g → X 30 [(3, .inl a3), (4, .inl a4)] [.inl s2, .inl s1, .inr 8] f g := by
    intro a3 a4 s1 s2 f g ha4 hs1 hs2 hI
    refine hX.1 2 _ rfl _ _ _ _ ?_
    refine And.intro (fun c9 => ?_) (fun c9 => ?_)
    · -- 40
      refine hX.1 3 _ rfl _ _ _ _ ?_
      exact hX.2 _ _ [(4, .inl _)] _ _ _ (mWc rfl mW0) (b41 _ _ _ _ _ _ (rg_w (c := 0) (d := 65535) ha4 (by decide +kernel)) (rg_w (c := 0) (d := 65535) hs1 (by decide +kernel)) (rg_w (c := 0) (d := 1) hs2 (by decide +kernel)) (rg_w (c := 0) (d := 1) (rg_c (a := 0) (b := 0) (by decide +kernel)) (by decide +kernel)) hI)
    · -- on
      exact hX.2 _ _ [(4, .inl _)] _ _ _ (mWc rfl mW0) (b41 _ _ _ _ _ _ (rg_w (c := 0) (d := 65535) ha4 (by decide +kernel)) (rg_w (c := 0) (d := 65535) hs1 (by decide +kernel)) (rg_w (c := 0) (d := 1) hs2 (by decide +kernel)) (rg_w (c := 0) (d := 1) (rg_c (a := 1) (b := 1) (by decide +kernel)) (by decide +kernel)) hI)
  refine hX.1 0 _ rfl _ _ _ _ ?_
  refine And.intro (fun c10 => ?_) (fun c10 => ?_)
  · -- 29
    refine hX.1 1 _ rfl _ _ _ _ ?_
    exact hX.2 _ _ [(3, .inl _), (4, .inl _)] _ _ _ (mWc rfl (mWc rfl mW0)) (b30 _ _ _ _ _ _ (rg_w (c := 0) (d := 65535) (show rg 0 65535 _ from (rg_andR (rg_c (a := 65535) (b := 65535) (by decide +kernel)) (by decide +kernel))) (by decide +kernel)) (rg_w (c := 0) (d := 65535) (show rg 0 65535 _ from (rg_andR (rg_c (a := 65535) (b := 65535) (by decide +kernel)) (by decide +kernel))) (by decide +kernel)) (rg_w (c := 0) (d := 1) (rg_c (a := 0) (b := 0) (by decide +kernel)) (by decide +kernel)) hI)
  · -- on
    exact hX.2 _ _ [(3, .inl _), (4, .inl _)] _ _ _ (mWc rfl (mWc rfl mW0)) (b30 _ _ _ _ _ _ (rg_w (c := 0) (d := 65535) (show rg 0 65535 _ from (rg_andR (rg_c (a := 65535) (b := 65535) (by decide +kernel)) (by decide +kernel))) (by decide +kernel)) (rg_w (c := 0) (d := 65535) (show rg 0 65535 _ from (rg_andR (rg_c (a := 65535) (b := 65535) (by decide +kernel)) (by decide +kernel))) (by decide +kernel)) (rg_w (c := 0) (d := 1) (rg_c (a := 1) (b := 1) (by decide +kernel)) (by decide +kernel)) hI)
def SPX0_carry (S : mSp) : Prop := ∀ (n e : Int) (f0 f : mFn) (g : mGn) (K : mKr), cI n e f0 f g → (∀ (y : Int32) (f' : mFn) (g' : mGn), rg 0 1 y → cI n e f0 f' g' → K (some (.inl y)) f' g') → S [.inr 8] f g K
set_option maxRecDepth 100000 in
set_option maxHeartbeats 4000000 in
theorem sfX0_carry : SPX0_carry spX0_carry := by
  intro n e f0 f g K   hI hK
  refine ⟨rfl, fun X hX => ?_⟩
  refine hX.1 0 _ rfl _ _ _ _ ?_
  refine And.intro (rg_in (rg_c (a := 95) (b := 95) (by decide +kernel)) (by decide +kernel)) ?_
  exact And.intro mRt_i (hK _ _ _ (rg_w (c := 0) (d := 1) (show rg 0 1 _ from (rg_andR (rg_c (a := 1) (b := 1) (by decide +kernel)) (by decide +kernel))) (by decide +kernel)) hI)
def SPX0_count (S : mSp) : Prop := ∀ (n e : Int) (f0 f : mFn) (g : mGn) (K : mKr) (x1 : Int32) (x2 : Int32) (x3 : Int32), rg (-1) 1 x2 → rg 127 128 x3 → cI n e f0 f g → (∀ (y : Int32) (f' : mFn) (g' : mGn), rg 0 255 y → cI n e f0 f' g' → K (some (.inl y)) f' g') → S [.inr 8, .inl x1, .inl x2, .inl x3] f g K
set_option maxRecDepth 100000 in
set_option maxHeartbeats 4000000 in
theorem sfX0_count : SPX0_count spX0_count := by
  intro n e f0 f g K x1 x2 x3 hx2 hx3 hI hK
  refine ⟨rfl, fun X hX => ?_⟩
  obtain ⟨S_X0_signs, k_X0_signs, S_X0_mark, k_X0_mark, hX⟩ : ∃ S_X0_signs, SPX0_signs S_X0_signs ∧ ∃ S_X0_mark, SPX0_mark S_X0_mark ∧ mR shC fdX0_count [(19, 1, 3, 0, S_X0_signs), (23, 0, 2, 3, S_X0_mark)] bsX0_count (fun r f g => mRt (some .int) r ∧ K r f g) X := ⟨spX0_signs, sfX0_signs, spX0_mark, sfX0_mark, hX⟩
  have b28 : ∀ (a4 : Int32) (s1 : Int32) (s2 : Int32) (s3 : Int32) (s4 : Int32) (f : mFn) (g : mGn), rg 0 255 a4 → rg 30 30 s1 → rg 0 255 s2 → rg 128 128 s3 → rg 0 1 s4 → cI n e f0 f g → X 28 [(4, .inl a4)] [.inl s4, .inl s3, .inl s2, .inl s1, .inr 8] f g := by
    intro a4 s1 s2 s3 s4 f g ha4 hs1 hs2 hs3 hs4 hI
    refine hX.1 2 _ rfl _ _ _ _ ?_
    refine k_X0_signs n _ f0 _ _ _ _ _ _ (rg_w (c := 128) (d := 32768) hs3 (by decide +kernel)) (rg_w (c := 0) (d := 1) hs4 (by decide +kernel)) hI (fun y8 f9 gf9 hy8 hI10 => ?_)
    refine k_X0_mark n _ f0 _ _ _ _ _ (rg_w (c := 1) (d := 63) hs1 (by decide +kernel)) (rg_w (c := 0) (d := 63) hy8 (by decide +kernel)) hI10 (fun f12 gf12 hI13 => ?_)
    exact And.intro mRt_i (hK _ _ _ (rg_w (c := 0) (d := 255) ha4 (by decide +kernel)) hI13)
  refine hX.1 0 _ rfl _ _ _ _ ?_
  refine And.intro (fun c14 => ?_) (fun c14 => ?_)
  · -- 27
    refine hX.1 1 _ rfl _ _ _ _ ?_
    exact hX.2 _ _ [(4, .inl _)] _ _ _ (mWc rfl mW0) (b28 _ _ _ _ _ _ _ (rg_w (c := 0) (d := 255) (show rg 0 255 _ from (rg_andR (rg_c (a := 255) (b := 255) (by decide +kernel)) (by decide +kernel))) (by decide +kernel)) (rg_w (c := 30) (d := 30) (rg_c (a := 30) (b := 30) (by decide +kernel)) (by decide +kernel)) (rg_w (c := 0) (d := 255) (show rg 0 255 _ from (rg_andR (rg_c (a := 255) (b := 255) (by decide +kernel)) (by decide +kernel))) (by decide +kernel)) (rg_w (c := 128) (d := 128) (rg_c (a := 128) (b := 128) (by decide +kernel)) (by decide +kernel)) (rg_w (c := 0) (d := 1) (rg_c (a := 0) (b := 0) (by decide +kernel)) (by decide +kernel)) hI)
  · -- on
    exact hX.2 _ _ [(4, .inl _)] _ _ _ (mWc rfl mW0) (b28 _ _ _ _ _ _ _ (rg_w (c := 0) (d := 255) (show rg 0 255 _ from (rg_andR (rg_c (a := 255) (b := 255) (by decide +kernel)) (by decide +kernel))) (by decide +kernel)) (rg_w (c := 30) (d := 30) (rg_c (a := 30) (b := 30) (by decide +kernel)) (by decide +kernel)) (rg_w (c := 0) (d := 255) (show rg 0 255 _ from (rg_andR (rg_c (a := 255) (b := 255) (by decide +kernel)) (by decide +kernel))) (by decide +kernel)) (rg_w (c := 128) (d := 128) (rg_c (a := 128) (b := 128) (by decide +kernel)) (by decide +kernel)) (rg_w (c := 0) (d := 1) (rg_c (a := 1) (b := 1) (by decide +kernel)) (by decide +kernel)) hI)
def SPX0_logic (S : mSp) : Prop := ∀ (n e : Int) (f0 f : mFn) (g : mGn) (K : mKr) (x1 : Int32), cI n e f0 f g → (∀ (y : Int32) (f' : mFn) (g' : mGn), cI n e f0 f' g' → K (some (.inl y)) f' g') → S [.inr 8, .inl x1] f g K
set_option maxRecDepth 100000 in
set_option maxHeartbeats 4000000 in
theorem sfX0_logic : SPX0_logic spX0_logic := by
  intro n e f0 f g K x1  hI hK
  refine ⟨rfl, fun X hX => ?_⟩
  obtain ⟨S_X0_signs, k_X0_signs, S_X0_mark, k_X0_mark, hX⟩ : ∃ S_X0_signs, SPX0_signs S_X0_signs ∧ ∃ S_X0_mark, SPX0_mark S_X0_mark ∧ mR shC fdX0_logic [(19, 1, 3, 0, S_X0_signs), (23, 0, 2, 3, S_X0_mark)] bsX0_logic (fun r f g => mRt (some .int) r ∧ K r f g) X := ⟨spX0_signs, sfX0_signs, spX0_mark, sfX0_mark, hX⟩
  refine hX.1 0 _ rfl _ _ _ _ ?_
  refine k_X0_signs n _ f0 _ _ _ _ _ _ (rg_w (c := 128) (d := 32768) (rg_c (a := 128) (b := 128) (by decide +kernel)) (by decide +kernel)) (rg_w (c := 0) (d := 1) (rg_c (a := 0) (b := 0) (by decide +kernel)) (by decide +kernel)) hI (fun y7 f8 gf8 hy7 hI9 => ?_)
  refine k_X0_mark n _ f0 _ _ _ _ _ (rg_w (c := 1) (d := 63) (rg_c (a := 30) (b := 30) (by decide +kernel)) (by decide +kernel)) (rg_w (c := 0) (d := 63) hy7 (by decide +kernel)) hI9 (fun f11 gf11 hI12 => ?_)
  exact And.intro mRt_i (hK _ _ _ hI12)
def SPX0_invert (S : mSp) : Prop := ∀ (n e : Int) (f0 f : mFn) (g : mGn) (K : mKr) (x1 : Int32), cI n e f0 f g → (∀ (y : Int32) (f' : mFn) (g' : mGn), cI n e f0 f' g' → K (some (.inl y)) f' g') → S [.inr 8, .inl x1] f g K
set_option maxRecDepth 100000 in
set_option maxHeartbeats 4000000 in
theorem sfX0_invert : SPX0_invert spX0_invert := by
  intro n e f0 f g K x1  hI hK
  refine ⟨rfl, fun X hX => ?_⟩
  obtain ⟨S_X0_mark, k_X0_mark, S_X0_logic, k_X0_logic, hX⟩ : ∃ S_X0_mark, SPX0_mark S_X0_mark ∧ ∃ S_X0_logic, SPX0_logic S_X0_logic ∧ mR shC fdX0_invert [(23, 0, 2, 3, S_X0_mark), (35, 0, 1, 3, S_X0_logic)] bsX0_invert (fun r f g => mRt (some .int) r ∧ K r f g) X := ⟨spX0_mark, sfX0_mark, spX0_logic, sfX0_logic, hX⟩
  refine hX.1 0 _ rfl _ _ _ _ ?_
  refine k_X0_mark n _ f0 _ _ _ _ _ (rg_w (c := 1) (d := 63) (rg_c (a := 1) (b := 1) (by decide +kernel)) (by decide +kernel)) (rg_w (c := 0) (d := 63) (rg_c (a := 1) (b := 1) (by decide +kernel)) (by decide +kernel)) hI (fun f8 gf8 hI9 => ?_)
  refine k_X0_logic n _ f0 _ _ _ _  hI9 (fun y10 f11 gf11 hI12 => ?_)
  exact And.intro mRt_i (hK _ _ _ hI12)
def SPX0_markProduct (S : mSp) : Prop := ∀ (n e : Int) (f0 f : mFn) (g : mGn) (K : mKr) (x1 : Int32) (x2 : Int32), rg 0 65535 x2 → cI n e f0 f g → (∀ (f' : mFn) (g' : mGn), cI n e f0 f' g' → K none f' g') → S [.inr 8, .inl x1, .inl x2] f g K
set_option maxRecDepth 100000 in
set_option maxHeartbeats 4000000 in
theorem sfX0_markProduct : SPX0_markProduct spX0_markProduct := by
  intro n e f0 f g K x1 x2 hx2 hI hK
  refine ⟨rfl, fun X hX => ?_⟩
  obtain ⟨S_X0_mark, k_X0_mark, hX⟩ : ∃ S_X0_mark, SPX0_mark S_X0_mark ∧ mR shC fdX0_markProduct [(23, 0, 2, 3, S_X0_mark)] bsX0_markProduct (fun r f g => mRt none r ∧ K r f g) X := ⟨spX0_mark, sfX0_mark, hX⟩
  have b23 : ∀ (s1 : Int32) (s2 : Int32) (s3 : Int32) (f : mFn) (g : mGn), rg 3 3 s1 → rg 0 1 s2 → rg 0 2 s3 → cI n e f0 f g → X 23 [] [.inl s3, .inl s2, .inl s1, .inr 8] f g := by
    intro s1 s2 s3 f g hs1 hs2 hs3 hI
    refine hX.1 4 _ rfl _ _ _ _ ?_
    refine k_X0_mark n _ f0 _ _ _ _ _ (rg_w (c := 1) (d := 63) hs1 (by decide +kernel)) (rg_w (c := 0) (d := 63) (show rg 0 3 _ from (rg_or (k := 2) hs2 hs3 (by decide +kernel))) (by decide +kernel)) hI (fun f7 gf7 hI8 => ?_)
    exact And.intro mRt_v (hK _ _ hI8)
  have b14 : ∀ (a2 : Int32) (s1 : Int32) (s2 : Int32) (f : mFn) (g : mGn), rg 0 65535 a2 → rg 3 3 s1 → rg 0 1 s2 → cI n e f0 f g → X 14 [(2, .inl a2)] [.inl s2, .inl s1, .inr 8] f g := by
    intro a2 s1 s2 f g ha2 hs1 hs2 hI
    refine hX.1 2 _ rfl _ _ _ _ ?_
    refine And.intro (fun c9 => ?_) (fun c9 => ?_)
    · -- 22
      refine hX.1 3 _ rfl _ _ _ _ ?_
      exact hX.2 _ _ [] _ _ _ mW0 (b23 _ _ _ _ _ (rg_w (c := 3) (d := 3) hs1 (by decide +kernel)) (rg_w (c := 0) (d := 1) hs2 (by decide +kernel)) (rg_w (c := 0) (d := 2) (rg_c (a := 0) (b := 0) (by decide +kernel)) (by decide +kernel)) hI)
    · -- on
      exact hX.2 _ _ [] _ _ _ mW0 (b23 _ _ _ _ _ (rg_w (c := 3) (d := 3) hs1 (by decide +kernel)) (rg_w (c := 0) (d := 1) hs2 (by decide +kernel)) (rg_w (c := 0) (d := 2) (rg_c (a := 2) (b := 2) (by decide +kernel)) (by decide +kernel)) hI)
  refine hX.1 0 _ rfl _ _ _ _ ?_
  refine And.intro (fun c10 => ?_) (fun c10 => ?_)
  · -- 13
    refine hX.1 1 _ rfl _ _ _ _ ?_
    exact hX.2 _ _ [(2, .inl _)] _ _ _ (mWc rfl mW0) (b14 _ _ _ _ _ (rg_w (c := 0) (d := 65535) hx2 (by decide +kernel)) (rg_w (c := 3) (d := 3) (rg_c (a := 3) (b := 3) (by decide +kernel)) (by decide +kernel)) (rg_w (c := 0) (d := 1) (rg_c (a := 0) (b := 0) (by decide +kernel)) (by decide +kernel)) hI)
  · -- on
    exact hX.2 _ _ [(2, .inl _)] _ _ _ (mWc rfl mW0) (b14 _ _ _ _ _ (rg_w (c := 0) (d := 65535) hx2 (by decide +kernel)) (rg_w (c := 3) (d := 3) (rg_c (a := 3) (b := 3) (by decide +kernel)) (by decide +kernel)) (rg_w (c := 0) (d := 1) (rg_c (a := 1) (b := 1) (by decide +kernel)) (by decide +kernel)) hI)
def SPX0_shiftRight (S : mSp) : Prop := ∀ (n e : Int) (f0 f : mFn) (g : mGn) (K : mKr) (x1 : Int32) (x2 : Int32), rg (-16777216) 16777215 x2 → cI n e f0 f g → (∀ (y : Int32) (f' : mFn) (g' : mGn), cI n e f0 f' g' → K (some (.inl y)) f' g') → S [.inr 8, .inl x1, .inl x2] f g K
set_option maxRecDepth 100000 in
set_option maxHeartbeats 4000000 in
theorem sfX0_shiftRight : SPX0_shiftRight spX0_shiftRight := by
  intro n e f0 f g K x1 x2 hx2 hI hK
  refine ⟨rfl, fun X hX => ?_⟩
  obtain ⟨S_X0_signs, k_X0_signs, S_X0_mark, k_X0_mark, hX⟩ : ∃ S_X0_signs, SPX0_signs S_X0_signs ∧ ∃ S_X0_mark, SPX0_mark S_X0_mark ∧ mR shC fdX0_shiftRight [(19, 1, 3, 0, S_X0_signs), (23, 0, 2, 3, S_X0_mark)] bsX0_shiftRight (fun r f g => mRt (some .int) r ∧ K r f g) X := ⟨spX0_signs, sfX0_signs, spX0_mark, sfX0_mark, hX⟩
  have b69 : ∀ (a3 : Int32) (s1 : Int32) (s2 : Int32) (s3 : Int32) (f : mFn) (g : mGn), rg 31 31 s1 → rg 0 31 s2 → rg 0 1 s3 → cI n e f0 f g → X 69 [(3, .inl a3)] [.inl s3, .inl s2, .inl s1, .inr 8] f g := by
    intro a3 s1 s2 s3 f g hs1 hs2 hs3 hI
    refine hX.1 8 _ rfl _ _ _ _ ?_
    refine k_X0_mark n _ f0 _ _ _ _ _ (rg_w (c := 1) (d := 63) hs1 (by decide +kernel)) (rg_w (c := 0) (d := 63) (show rg 0 31 _ from (rg_or (k := 5) hs2 hs3 (by decide +kernel))) (by decide +kernel)) hI (fun f12 gf12 hI13 => ?_)
    exact And.intro mRt_i (hK _ _ _ hI13)
  have b56 : ∀ (a3 : Int32) (a4 : Int32) (s1 : Int32) (s2 : Int32) (s3 : Int32) (s4 : Int32) (f : mFn) (g : mGn), rg 0 1 a4 → rg 31 31 s1 → rg 128 128 s3 → rg 0 1 s4 → cI n e f0 f g → X 56 [(3, .inl a3), (4, .inl a4)] [.inl s4, .inl s3, .inl s2, .inl s1, .inr 8] f g := by
    intro a3 a4 s1 s2 s3 s4 f g ha4 hs1 hs3 hs4 hI
    refine hX.1 6 _ rfl _ _ _ _ ?_
    refine k_X0_signs n _ f0 _ _ _ _ _ _ (rg_w (c := 128) (d := 32768) hs3 (by decide +kernel)) (rg_w (c := 0) (d := 1) hs4 (by decide +kernel)) hI (fun y14 f15 gf15 hy14 hI16 => ?_)
    refine And.intro (fun c17 => ?_) (fun c17 => ?_)
    · -- 68
      refine hX.1 7 _ rfl _ _ _ _ ?_
      exact hX.2 _ _ [(3, .inl _)] _ _ _ (mWc rfl mW0) (b69 _ _ _ _ _ _ (rg_w (c := 31) (d := 31) hs1 (by decide +kernel)) (rg_w (c := 0) (d := 31) hy14 (by decide +kernel)) (rg_w (c := 0) (d := 1) (rg_c (a := 0) (b := 0) (by decide +kernel)) (by decide +kernel)) hI16)
    · -- on
      exact hX.2 _ _ [(3, .inl _)] _ _ _ (mWc rfl mW0) (b69 _ _ _ _ _ _ (rg_w (c := 31) (d := 31) hs1 (by decide +kernel)) (rg_w (c := 0) (d := 31) hy14 (by decide +kernel)) (rg_w (c := 0) (d := 1) (rg_c (a := 1) (b := 1) (by decide +kernel)) (by decide +kernel)) hI16)
  have b35 : ∀ (a3 : Int32) (a4 : Int32) (s0 : Int32) (f : mFn) (g : mGn), rg 0 1 a4 → rg 0 1 s0 → cI n e f0 f g → X 35 [(0, .inr 8), (3, .inl a3), (4, .inl a4)] [.inl s0] f g := by
    intro a3 a4 s0 f g ha4 hs0 hI
    refine hX.1 4 _ rfl _ _ _ _ ?_
    refine And.intro (fun c18 => ?_) (fun c18 => ?_)
    · -- 55
      refine hX.1 5 _ rfl _ _ _ _ ?_
      exact hX.2 _ _ [(3, .inl _), (4, .inl _)] _ _ _ (mWc rfl (mWc rfl mW0)) (b56 _ _ _ _ _ _ _ _ (rg_w (c := 0) (d := 1) ha4 (by decide +kernel)) (rg_w (c := 31) (d := 31) (rg_c (a := 31) (b := 31) (by decide +kernel)) (by decide +kernel)) (rg_w (c := 128) (d := 128) (rg_c (a := 128) (b := 128) (by decide +kernel)) (by decide +kernel)) (rg_w (c := 0) (d := 1) (rg_c (a := 0) (b := 0) (by decide +kernel)) (by decide +kernel)) hI)
    · -- on
      exact hX.2 _ _ [(3, .inl _), (4, .inl _)] _ _ _ (mWc rfl (mWc rfl mW0)) (b56 _ _ _ _ _ _ _ _ (rg_w (c := 0) (d := 1) ha4 (by decide +kernel)) (rg_w (c := 31) (d := 31) (rg_c (a := 31) (b := 31) (by decide +kernel)) (by decide +kernel)) (rg_w (c := 128) (d := 128) (rg_c (a := 128) (b := 128) (by decide +kernel)) (by decide +kernel)) (rg_w (c := 0) (d := 1) (rg_c (a := 1) (b := 1) (by decide +kernel)) (by decide +kernel)) hI)
  have b20 : ∀ (a3 : Int32) (s0 : Int32) (f : mFn) (g : mGn), rg 0 1 s0 → cI n e f0 f g → X 20 [(0, .inr 8), (3, .inl a3)] [.inl s0] f g := by
    intro a3 s0 f g hs0 hI
    refine hX.1 2 _ rfl _ _ _ _ ?_
    refine And.intro (fun c19 => ?_) (fun c19 => ?_)
    · -- 34
      refine hX.1 3 _ rfl _ _ _ _ ?_
      exact hX.2 _ _ [(0, .inr 8), (3, .inl _), (4, .inl _)] _ _ _ (mWc rfl (mWc rfl (mWc rfl mW0))) (b35 _ _ _ _ _ (rg_w (c := 0) (d := 1) hs0 (by decide +kernel)) (rg_w (c := 0) (d := 1) (rg_c (a := 0) (b := 0) (by decide +kernel)) (by decide +kernel)) hI)
    · -- on
      exact hX.2 _ _ [(0, .inr 8), (3, .inl _), (4, .inl _)] _ _ _ (mWc rfl (mWc rfl (mWc rfl mW0))) (b35 _ _ _ _ _ (rg_w (c := 0) (d := 1) hs0 (by decide +kernel)) (rg_w (c := 0) (d := 1) (rg_c (a := 1) (b := 1) (by decide +kernel)) (by decide +kernel)) hI)
  refine hX.1 0 _ rfl _ _ _ _ ?_
  refine And.intro (fun c20 => ?_) (fun c20 => ?_)
  · -- 19
    refine hX.1 1 _ rfl _ _ _ _ ?_
    exact hX.2 _ _ [(0, .inr 8), (3, .inl _)] _ _ _ (mWc rfl (mWc rfl mW0)) (b20 _ _ _ _ (rg_w (c := 0) (d := 1) (rg_c (a := 0) (b := 0) (by decide +kernel)) (by decide +kernel)) hI)
  · -- on
    exact hX.2 _ _ [(0, .inr 8), (3, .inl _)] _ _ _ (mWc rfl (mWc rfl mW0)) (b20 _ _ _ _ (rg_w (c := 0) (d := 1) (rg_c (a := 1) (b := 1) (by decide +kernel)) (by decide +kernel)) hI)
def SPX0_subtract (S : mSp) : Prop := ∀ (n e : Int) (f0 f : mFn) (g : mGn) (K : mKr) (x1 : Int32) (x2 : Int32) (x3 : Int32), rg 0 1 x3 → cI n e f0 f g → (∀ (y : Int32) (f' : mFn) (g' : mGn), rg 0 255 y → cI n e f0 f' g' → K (some (.inl y)) f' g') → S [.inr 8, .inl x1, .inl x2, .inl x3] f g K
set_option maxRecDepth 100000 in
set_option maxHeartbeats 4000000 in
theorem sfX0_subtract : SPX0_subtract spX0_subtract := by
  intro n e f0 f g K x1 x2 x3 hx3 hI hK
  refine ⟨rfl, fun X hX => ?_⟩
  obtain ⟨S_X0_signed, k_X0_signed, S_X0_signs, k_X0_signs, S_X0_mark, k_X0_mark, hX⟩ : ∃ S_X0_signed, SPX0_signed S_X0_signed ∧ ∃ S_X0_signs, SPX0_signs S_X0_signs ∧ ∃ S_X0_mark, SPX0_mark S_X0_mark ∧ mR shC fdX0_subtract [(15, 1, 1, 0, S_X0_signed), (19, 1, 3, 0, S_X0_signs), (23, 0, 2, 3, S_X0_mark)] bsX0_subtract (fun r f g => mRt (some .int) r ∧ K r f g) X := ⟨spX0_signed, sfX0_signed, spX0_signs, sfX0_signs, spX0_mark, sfX0_mark, hX⟩
  have b85 : ∀ (a4 : Int32) (a6 : Int32) (f : mFn) (g : mGn), rg 0 63 a6 → cI n e f0 f g → X 85 [(0, .inr 8), (4, .inl a4), (6, .inl a6)] [] f g := by
    intro a4 a6 f g ha6 hI
    refine hX.1 5 _ rfl _ _ _ _ ?_
    refine k_X0_mark n _ f0 _ _ _ _ _ (rg_w (c := 1) (d := 63) (rg_c (a := 63) (b := 63) (by decide +kernel)) (by decide +kernel)) (rg_w (c := 0) (d := 63) ha6 (by decide +kernel)) hI (fun f18 gf18 hI19 => ?_)
    exact And.intro mRt_i (hK _ _ _ (rg_w (c := 0) (d := 255) (show rg 0 255 _ from (rg_andR (rg_c (a := 255) (b := 255) (by decide +kernel)) (by decide +kernel))) (by decide +kernel)) hI19)
  have b64 : ∀ (a1 : Int32) (a2 : Int32) (a3 : Int32) (a4 : Int32) (a6 : Int32) (f : mFn) (g : mGn), rg 0 1 a3 → rg 0 31 a6 → cI n e f0 f g → X 64 [(0, .inr 8), (1, .inl a1), (2, .inl a2), (3, .inl a3), (4, .inl a4), (6, .inl a6)] [] f g := by
    intro a1 a2 a3 a4 a6 f g ha3 ha6 hI
    refine hX.1 4 _ rfl _ _ _ _ ?_
    refine And.intro (fun c20 => ?_) (fun c20 => ?_)
    · -- 85
      exact hX.2 _ _ [(0, .inr 8), (4, .inl _), (6, .inl _)] _ _ _ (mWc rfl (mWc rfl (mWc rfl mW0))) (b85 _ _ _ _ (rg_w (c := 0) (d := 63) ha6 (by decide +kernel)) hI)
    · -- on
      exact hX.2 _ _ [(0, .inr 8), (4, .inl _), (6, .inl _)] _ _ _ (mWc rfl (mWc rfl (mWc rfl mW0))) (b85 _ _ _ _ (rg_w (c := 0) (d := 63) (show rg 0 63 _ from (rg_or (k := 6) ha6 (rg_c (a := 32) (b := 32) (by decide +kernel)) (by decide +kernel))) (by decide +kernel)) hI)
  have b48 : ∀ (a1 : Int32) (a2 : Int32) (a3 : Int32) (a4 : Int32) (s0 : Int32) (s1 : Int32) (s2 : Int32) (f : mFn) (g : mGn), rg 0 1 a3 → rg 0 255 s0 → rg 128 128 s1 → rg 0 1 s2 → cI n e f0 f g → X 48 [(0, .inr 8), (1, .inl a1), (2, .inl a2), (3, .inl a3), (4, .inl a4)] [.inl s2, .inl s1, .inl s0] f g := by
    intro a1 a2 a3 a4 s0 s1 s2 f g ha3 hs0 hs1 hs2 hI
    refine hX.1 3 _ rfl _ _ _ _ ?_
    refine k_X0_signs n _ f0 _ _ _ _ _ _ (rg_w (c := 128) (d := 32768) hs1 (by decide +kernel)) (rg_w (c := 0) (d := 1) hs2 (by decide +kernel)) hI (fun y21 f22 gf22 hy21 hI23 => ?_)
    refine And.intro (fun c24 => ?_) (fun c24 => ?_)
    · -- 64
      exact hX.2 _ _ [(0, .inr 8), (1, .inl _), (2, .inl _), (3, .inl _), (4, .inl _), (6, .inl _)] _ _ _ (mWc rfl (mWc rfl (mWc rfl (mWc rfl (mWc rfl (mWc rfl mW0)))))) (b64 _ _ _ _ _ _ _ (rg_w (c := 0) (d := 1) ha3 (by decide +kernel)) (rg_w (c := 0) (d := 31) hy21 (by decide +kernel)) hI23)
    · -- on
      exact hX.2 _ _ [(0, .inr 8), (1, .inl _), (2, .inl _), (3, .inl _), (4, .inl _), (6, .inl _)] _ _ _ (mWc rfl (mWc rfl (mWc rfl (mWc rfl (mWc rfl (mWc rfl mW0)))))) (b64 _ _ _ _ _ _ _ (rg_w (c := 0) (d := 1) ha3 (by decide +kernel)) (rg_w (c := 0) (d := 31) (show rg 0 31 _ from (rg_or (k := 5) hy21 (rg_c (a := 1) (b := 1) (by decide +kernel)) (by decide +kernel))) (by decide +kernel)) hI23)
  have b43 : ∀ (a1 : Int32) (a2 : Int32) (a3 : Int32) (a4 : Int32) (s0 : Int32) (s1 : Int32) (f : mFn) (g : mGn), rg 0 1 a3 → rg 0 255 s0 → rg 128 128 s1 → cI n e f0 f g → X 43 [(0, .inr 8), (1, .inl a1), (2, .inl a2), (3, .inl a3), (4, .inl a4)] [.inl s1, .inl s0] f g := by
    intro a1 a2 a3 a4 s0 s1 f g ha3 hs0 hs1 hI
    refine hX.1 1 _ rfl _ _ _ _ ?_
    exact hX.2 _ _ [(0, .inr 8), (1, .inl _), (2, .inl _), (3, .inl _), (4, .inl _)] _ _ _ (mWc rfl (mWc rfl (mWc rfl (mWc rfl (mWc rfl mW0))))) (b48 _ _ _ _ _ _ _ _ _ (rg_w (c := 0) (d := 1) ha3 (by decide +kernel)) (rg_w (c := 0) (d := 255) hs0 (by decide +kernel)) (rg_w (c := 128) (d := 128) hs1 (by decide +kernel)) (rg_w (c := 0) (d := 1) (rg_c (a := 1) (b := 1) (by decide +kernel)) (by decide +kernel)) hI)
  refine hX.1 0 _ rfl _ _ _ _ ?_
  refine k_X0_signed n _ f0 _ _ _ _  hI (fun y25 f26 gf26 hy25 hI27 => ?_)
  refine k_X0_signed n _ f0 _ _ _ _  hI27 (fun y28 f29 gf29 hy28 hI30 => ?_)
  refine And.intro (fun c31 => ?_) (fun c31 => ?_)
  · -- 43
    exact hX.2 _ _ [(0, .inr 8), (1, .inl _), (2, .inl _), (3, .inl _), (4, .inl _)] _ _ _ (mWc rfl (mWc rfl (mWc rfl (mWc rfl (mWc rfl mW0))))) (b43 _ _ _ _ _ _ _ _ (rg_w (c := 0) (d := 1) hx3 (by decide +kernel)) (rg_w (c := 0) (d := 255) (show rg 0 255 _ from (rg_andR (rg_c (a := 255) (b := 255) (by decide +kernel)) (by decide +kernel))) (by decide +kernel)) (rg_w (c := 128) (d := 128) (rg_c (a := 128) (b := 128) (by decide +kernel)) (by decide +kernel)) hI30)
  · -- on
    refine And.intro (fun c32 => ?_) (fun c32 => ?_)
    · -- 47
      refine hX.1 2 _ rfl _ _ _ _ ?_
      exact hX.2 _ _ [(0, .inr 8), (1, .inl _), (2, .inl _), (3, .inl _), (4, .inl _)] _ _ _ (mWc rfl (mWc rfl (mWc rfl (mWc rfl (mWc rfl mW0))))) (b48 _ _ _ _ _ _ _ _ _ (rg_w (c := 0) (d := 1) hx3 (by decide +kernel)) (rg_w (c := 0) (d := 255) (show rg 0 255 _ from (rg_andR (rg_c (a := 255) (b := 255) (by decide +kernel)) (by decide +kernel))) (by decide +kernel)) (rg_w (c := 128) (d := 128) (rg_c (a := 128) (b := 128) (by decide +kernel)) (by decide +kernel)) (rg_w (c := 0) (d := 1) (rg_c (a := 0) (b := 0) (by decide +kernel)) (by decide +kernel)) hI30)
    · -- on
      exact hX.2 _ _ [(0, .inr 8), (1, .inl _), (2, .inl _), (3, .inl _), (4, .inl _)] _ _ _ (mWc rfl (mWc rfl (mWc rfl (mWc rfl (mWc rfl mW0))))) (b43 _ _ _ _ _ _ _ _ (rg_w (c := 0) (d := 1) hx3 (by decide +kernel)) (rg_w (c := 0) (d := 255) (show rg 0 255 _ from (rg_andR (rg_c (a := 255) (b := 255) (by decide +kernel)) (by decide +kernel))) (by decide +kernel)) (rg_w (c := 128) (d := 128) (rg_c (a := 128) (b := 128) (by decide +kernel)) (by decide +kernel)) hI30)
def SPX0_subtractFromPair (S : mSp) : Prop := ∀ (n e : Int) (f0 f : mFn) (g : mGn) (K : mKr) (x1 : Int32) (x2 : Int32), rg 0 63 x2 → cI n e f0 f g → (∀ (y : Int32) (f' : mFn) (g' : mGn), rg 0 65535 y → cI n e f0 f' g' → K (some (.inl y)) f' g') → S [.inr 8, .inl x1, .inl x2] f g K
set_option maxRecDepth 100000 in
set_option maxHeartbeats 4000000 in
theorem sfX0_subtractFromPair : SPX0_subtractFromPair spX0_subtractFromPair := by
  intro n e f0 f g K x1 x2 hx2 hI hK
  refine ⟨rfl, fun X hX => ?_⟩
  obtain ⟨S_X0_markPair, k_X0_markPair, hX⟩ : ∃ S_X0_markPair, SPX0_markPair S_X0_markPair ∧ mR shC fdX0_subtractFromPair [(40, 0, 3, 3, S_X0_markPair)] bsX0_subtractFromPair (fun r f g => mRt (some .int) r ∧ K r f g) X := ⟨spX0_markPair, sfX0_markPair, hX⟩
  have b39 : ∀ (a4 : Int32) (s1 : Int32) (s2 : Int32) (s3 : Int32) (f : mFn) (g : mGn), rg 0 65535 a4 → rg 0 65535 s1 → rg 0 1 s2 → rg 0 1 s3 → cI n e f0 f g → X 39 [(4, .inl a4)] [.inl s3, .inl s2, .inl s1, .inr 8] f g := by
    intro a4 s1 s2 s3 f g ha4 hs1 hs2 hs3 hI
    refine hX.1 4 _ rfl _ _ _ _ ?_
    refine k_X0_markPair n _ f0 _ _ _ _ _ _ (rg_w (c := 0) (d := 65535) hs1 (by decide +kernel)) (rg_w (c := 0) (d := 1) hs2 (by decide +kernel)) (rg_w (c := 0) (d := 1) hs3 (by decide +kernel)) hI (fun f7 gf7 hI8 => ?_)
    exact And.intro mRt_i (hK _ _ _ (rg_w (c := 0) (d := 65535) ha4 (by decide +kernel)) hI8)
  have b30 : ∀ (a3 : Int32) (a4 : Int32) (s1 : Int32) (s2 : Int32) (f : mFn) (g : mGn), rg 0 65535 a4 → rg 0 65535 s1 → rg 0 1 s2 → cI n e f0 f g → X 30 [(3, .inl a3), (4, .inl a4)] [.inl s2, .inl s1, .inr 8] f g := by
    intro a3 a4 s1 s2 f g ha4 hs1 hs2 hI
    refine hX.1 2 _ rfl _ _ _ _ ?_
    refine And.intro (fun c9 => ?_) (fun c9 => ?_)
    · -- 38
      refine hX.1 3 _ rfl _ _ _ _ ?_
      exact hX.2 _ _ [(4, .inl _)] _ _ _ (mWc rfl mW0) (b39 _ _ _ _ _ _ (rg_w (c := 0) (d := 65535) ha4 (by decide +kernel)) (rg_w (c := 0) (d := 65535) hs1 (by decide +kernel)) (rg_w (c := 0) (d := 1) hs2 (by decide +kernel)) (rg_w (c := 0) (d := 1) (rg_c (a := 0) (b := 0) (by decide +kernel)) (by decide +kernel)) hI)
    · -- on
      exact hX.2 _ _ [(4, .inl _)] _ _ _ (mWc rfl mW0) (b39 _ _ _ _ _ _ (rg_w (c := 0) (d := 65535) ha4 (by decide +kernel)) (rg_w (c := 0) (d := 65535) hs1 (by decide +kernel)) (rg_w (c := 0) (d := 1) hs2 (by decide +kernel)) (rg_w (c := 0) (d := 1) (rg_c (a := 1) (b := 1) (by decide +kernel)) (by decide +kernel)) hI)
  refine hX.1 0 _ rfl _ _ _ _ ?_
  refine And.intro (fun c10 => ?_) (fun c10 => ?_)
  · -- 29
    refine hX.1 1 _ rfl _ _ _ _ ?_
    exact hX.2 _ _ [(3, .inl _), (4, .inl _)] _ _ _ (mWc rfl (mWc rfl mW0)) (b30 _ _ _ _ _ _ (rg_w (c := 0) (d := 65535) (show rg 0 65535 _ from (rg_andR (rg_c (a := 65535) (b := 65535) (by decide +kernel)) (by decide +kernel))) (by decide +kernel)) (rg_w (c := 0) (d := 65535) (show rg 0 65535 _ from (rg_andR (rg_c (a := 65535) (b := 65535) (by decide +kernel)) (by decide +kernel))) (by decide +kernel)) (rg_w (c := 0) (d := 1) (rg_c (a := 0) (b := 0) (by decide +kernel)) (by decide +kernel)) hI)
  · -- on
    exact hX.2 _ _ [(3, .inl _), (4, .inl _)] _ _ _ (mWc rfl (mWc rfl mW0)) (b30 _ _ _ _ _ _ (rg_w (c := 0) (d := 65535) (show rg 0 65535 _ from (rg_andR (rg_c (a := 65535) (b := 65535) (by decide +kernel)) (by decide +kernel))) (by decide +kernel)) (rg_w (c := 0) (d := 65535) (show rg 0 65535 _ from (rg_andR (rg_c (a := 65535) (b := 65535) (by decide +kernel)) (by decide +kernel))) (by decide +kernel)) (rg_w (c := 0) (d := 1) (rg_c (a := 1) (b := 1) (by decide +kernel)) (by decide +kernel)) hI)
def SPX0_subtractOn (S : mSp) : Prop := ∀ (n e : Int) (f0 f : mFn) (g : mGn) (K : mKr) (x1 : Int32) (x2 : Int32), cI n e f0 f g → (∀ (y : Int32) (f' : mFn) (g' : mGn), rg 0 255 y → cI n e f0 f' g' → K (some (.inl y)) f' g') → S [.inr 8, .inl x1, .inl x2] f g K
set_option maxRecDepth 100000 in
set_option maxHeartbeats 4000000 in
theorem sfX0_subtractOn : SPX0_subtractOn spX0_subtractOn := by
  intro n e f0 f g K x1 x2  hI hK
  refine ⟨rfl, fun X hX => ?_⟩
  obtain ⟨S_X0_carry, k_X0_carry, S_X0_subtract, k_X0_subtract, hX⟩ : ∃ S_X0_carry, SPX0_carry S_X0_carry ∧ ∃ S_X0_subtract, SPX0_subtract S_X0_subtract ∧ mR shC fdX0_subtractOn [(27, 0, 0, 3, S_X0_carry), (31, 0, 3, 3, S_X0_subtract)] bsX0_subtractOn (fun r f g => mRt (some .int) r ∧ K r f g) X := ⟨spX0_carry, sfX0_carry, spX0_subtract, sfX0_subtract, hX⟩
  have b38 : ∀ (a4 : Int32) (f : mFn) (g : mGn), rg 0 255 a4 → cI n e f0 f g → X 38 [(4, .inl a4)] [] f g := by
    intro a4 f g ha4 hI
    refine hX.1 1 _ rfl _ _ _ _ ?_
    exact And.intro mRt_i (hK _ _ _ (rg_w (c := 0) (d := 255) ha4 (by decide +kernel)) hI)
  refine hX.1 0 _ rfl _ _ _ _ ?_
  refine And.intro (rg_in (rg_c (a := 95) (b := 95) (by decide +kernel)) (by decide +kernel)) ?_
  refine k_X0_carry n _ f0 _ _ _  hI (fun y9 f10 gf10 hy9 hI11 => ?_)
  refine k_X0_subtract n _ f0 _ _ _ _ _ _ (rg_w (c := 0) (d := 1) hy9 (by decide +kernel)) hI11 (fun y12 f13 gf13 hy12 hI14 => ?_)
  refine And.intro (fun c15 => ?_) (fun c15 => ?_)
  · -- 38
    exact hX.2 _ _ [(4, .inl _)] _ _ _ (mWc rfl mW0) (b38 _ _ _ (rg_w (c := 0) (d := 255) hy12 (by decide +kernel)) hI14)
  · -- on
    refine And.intro (rg_in (rg_c (a := 95) (b := 95) (by decide +kernel)) (by decide +kernel)) ?_
    refine And.intro (rg_in (rg_c (a := 95) (b := 95) (by decide +kernel)) (by decide +kernel)) ?_
    exact hX.2 _ _ [(4, .inl _)] _ _ _ (mWc rfl mW0) (b38 _ _ _ (rg_w (c := 0) (d := 255) hy12 (by decide +kernel)) (gI_a0 hI14 (by decide +kernel)))
def SPX1_pair (S : mSp) : Prop := ∀ (n e : Int) (f0 f : mFn) (g : mGn) (K : mKr) (x1 : Int32), rg 0 30 x1 → cI n e f0 f g → (∀ (y : Int32) (f' : mFn) (g' : mGn), cI n e f0 f' g' → K (some (.inl y)) f' g') → S [.inr 2, .inl x1] f g K
set_option maxRecDepth 100000 in
set_option maxHeartbeats 4000000 in
theorem sfX1_pair : SPX1_pair spX1_pair := by
  intro n e f0 f g K x1 hx1 hI hK
  refine ⟨rfl, fun X hX => ?_⟩
  refine hX.1 0 _ rfl _ _ _ _ ?_
  refine And.intro (rg_in (show rg 1 31 _ from (rg_add hx1 (rg_c (a := 1) (b := 1) (by decide +kernel)) (by decide +kernel))) (by decide +kernel)) ?_
  refine And.intro (rg_in hx1 (by decide +kernel)) ?_
  exact And.intro mRt_i (hK _ _ _ hI)
def SPX1_first (S : mSp) : Prop := ∀ (n e : Int) (f0 f : mFn) (g : mGn) (K : mKr) (x0 : Int32), cI n e f0 f g → (∀ (y : Int32) (f' : mFn) (g' : mGn), rg 0 31 y → cI n e f0 f' g' → K (some (.inl y)) f' g') → S [.inl x0] f g K
set_option maxRecDepth 100000 in
set_option maxHeartbeats 4000000 in
theorem sfX1_first : SPX1_first spX1_first := by
  intro n e f0 f g K x0  hI hK
  refine ⟨rfl, fun X hX => ?_⟩
  refine hX.1 0 _ rfl _ _ _ _ ?_
  exact And.intro mRt_i (hK _ _ _ (rg_w (c := 0) (d := 31) (show rg 0 31 _ from (rg_andR (rg_c (a := 31) (b := 31) (by decide +kernel)) (by decide +kernel))) (by decide +kernel)) hI)
def SPX2_storeControl (S : mSp) : Prop := ∀ (n e : Int) (f0 f : mFn) (g : mGn) (K : mKr) (x1 : Int32), cI n e f0 f g → (∀ (y : Int32) (f' : mFn) (g' : mGn), rg 0 4 y → cI n e f0 f' g' → K (some (.inl y)) f' g') → S [.inr 6, .inl x1] f g K
set_option maxRecDepth 100000 in
set_option maxHeartbeats 4000000 in
theorem sfX2_storeControl : SPX2_storeControl spX2_storeControl := by
  intro n e f0 f g K x1  hI hK
  refine ⟨rfl, fun X hX => ?_⟩
  have b123 : ∀ (f : mFn) (g : mGn), cI n e f0 f g → X 123 [] [] f g := by
    intro  f g  hI
    refine hX.1 5 _ rfl _ _ _ _ ?_
    exact And.intro mRt_i (hK _ _ _ (rg_w (c := 0) (d := 4) (rg_c (a := 0) (b := 0) (by decide +kernel)) (by decide +kernel)) hI)
  have b103 : ∀ (a1 : Int32) (a2 : Int32) (f : mFn) (g : mGn), cI n e f0 f g → X 103 [(0, .inr 6), (1, .inl a1), (2, .inl a2)] [] f g := by
    intro a1 a2 f g  hI
    refine hX.1 4 _ rfl _ _ _ _ ?_
    refine And.intro (rg_in (rg_c (a := 63) (b := 63) (by decide +kernel)) (by decide +kernel)) ?_
    refine And.intro (fun c15 => ?_) (fun c15 => ?_)
    · -- 123
      exact hX.2 _ _ [] _ _ _ mW0 (b123  _ _  (gI_a0 hI (by decide +kernel)))
    · -- on
      refine And.intro (fun c16 => ?_) (fun c16 => ?_)
      · -- 125
        refine hX.1 6 _ rfl _ _ _ _ ?_
        refine And.intro (rg_in (rg_c (a := 65) (b := 65) (by decide +kernel)) (by decide +kernel)) ?_
        refine And.intro (rg_in (show rg 0 255 _ from (rg_andR (rg_c (a := 255) (b := 255) (by decide +kernel)) (by decide +kernel))) (by decide +kernel)) ?_
        refine And.intro (rg_in (rg_c (a := 64) (b := 64) (by decide +kernel)) (by decide +kernel)) ?_
        exact And.intro mRt_i (hK _ _ _ (rg_w (c := 0) (d := 4) (rg_c (a := 4) (b := 4) (by decide +kernel)) (by decide +kernel)) (gI_a0 (gI_a0 hI (by decide +kernel)) (by decide +kernel)))
      · -- on
        exact hX.2 _ _ [] _ _ _ mW0 (b123  _ _  (gI_a0 hI (by decide +kernel)))
  have b45 : ∀ (a1 : Int32) (a2 : Int32) (a3 : Int32) (f : mFn) (g : mGn), rg 0 1 a3 → cI n e f0 f g → X 45 [(0, .inr 6), (1, .inl a1), (2, .inl a2), (3, .inl a3)] [] f g := by
    intro a1 a2 a3 f g ha3 hI
    refine hX.1 3 _ rfl _ _ _ _ ?_
    refine And.intro (fun c18 => ?_) (fun c18 => ?_)
    · -- 103
      exact hX.2 _ _ [(0, .inr 6), (1, .inl _), (2, .inl _)] _ _ _ (mWc rfl (mWc rfl (mWc rfl mW0))) (b103 _ _ _ _  hI)
    · -- on
      refine And.intro (fun c19 => ?_) (fun c19 => ?_)
      · -- 103
        exact hX.2 _ _ [(0, .inr 6), (1, .inl _), (2, .inl _)] _ _ _ (mWc rfl (mWc rfl (mWc rfl mW0))) (b103 _ _ _ _  hI)
      · -- on
        refine And.intro (fun c20 => ?_) (fun c20 => ?_)
        · -- 103
          exact hX.2 _ _ [(0, .inr 6), (1, .inl _), (2, .inl _)] _ _ _ (mWc rfl (mWc rfl (mWc rfl mW0))) (b103 _ _ _ _  hI)
        · -- on
          refine And.intro (rg_in (rg_c (a := 65) (b := 65) (by decide +kernel)) (by decide +kernel)) ?_
          refine And.intro (rg_in (rg_c (a := 64) (b := 64) (by decide +kernel)) (by decide +kernel)) ?_
          refine And.intro (rg_in (show rg 0 255 _ from (rg_andR (rg_c (a := 255) (b := 255) (by decide +kernel)) (by decide +kernel))) (by decide +kernel)) ?_
          exact hX.2 _ _ [(0, .inr 6), (1, .inl _), (2, .inl _)] _ _ _ (mWc rfl (mWc rfl (mWc rfl mW0))) (b103 _ _ _ _  (cP0 (cP0 (gI_a0 hI (by decide +kernel)) (by decide +kernel)) (by decide +kernel)))
  have b19 : ∀ (a1 : Int32) (a2 : Int32) (s0 : Int32) (f : mFn) (g : mGn), rg 0 1 s0 → cI n e f0 f g → X 19 [(0, .inr 6), (1, .inl a1), (2, .inl a2)] [.inl s0] f g := by
    intro a1 a2 s0 f g hs0 hI
    refine hX.1 2 _ rfl _ _ _ _ ?_
    refine And.intro (fun c24 => ?_) (fun c24 => ?_)
    · -- 45
      exact hX.2 _ _ [(0, .inr 6), (1, .inl _), (2, .inl _), (3, .inl _)] _ _ _ (mWc rfl (mWc rfl (mWc rfl (mWc rfl mW0)))) (b45 _ _ _ _ _ (rg_w (c := 0) (d := 1) hs0 (by decide +kernel)) hI)
    · -- on
      exact hX.2 _ _ [(0, .inr 6), (1, .inl _), (2, .inl _), (3, .inl _)] _ _ _ (mWc rfl (mWc rfl (mWc rfl (mWc rfl mW0)))) (b45 _ _ _ _ _ (rg_w (c := 0) (d := 1) hs0 (by decide +kernel)) (cP0 hI (by decide +kernel)))
  refine hX.1 0 _ rfl _ _ _ _ ?_
  refine And.intro (rg_in (rg_c (a := 63) (b := 63) (by decide +kernel)) (by decide +kernel)) ?_
  refine And.intro (fun c26 => ?_) (fun c26 => ?_)
  · -- 18
    refine hX.1 1 _ rfl _ _ _ _ ?_
    exact hX.2 _ _ [(0, .inr 6), (1, .inl _), (2, .inl _)] _ _ _ (mWc rfl (mWc rfl (mWc rfl mW0))) (b19 _ _ _ _ _ (rg_w (c := 0) (d := 1) (rg_c (a := 0) (b := 0) (by decide +kernel)) (by decide +kernel)) hI)
  · -- on
    exact hX.2 _ _ [(0, .inr 6), (1, .inl _), (2, .inl _)] _ _ _ (mWc rfl (mWc rfl (mWc rfl mW0))) (b19 _ _ _ _ _ (rg_w (c := 0) (d := 1) (rg_c (a := 1) (b := 1) (by decide +kernel)) (by decide +kernel)) hI)
def SPX2_storeOther (S : mSp) : Prop := ∀ (n e : Int) (f0 f : mFn) (g : mGn) (K : mKr) (x1 : Int32) (x2 : Int32), rg 64 65 x1 → cI n e f0 f g → (∀ (f' : mFn) (g' : mGn), cI n e f0 f' g' → K none f' g') → S [.inr 6, .inl x1, .inl x2] f g K
set_option maxRecDepth 100000 in
set_option maxHeartbeats 4000000 in
theorem sfX2_storeOther : SPX2_storeOther spX2_storeOther := by
  intro n e f0 f g K x1 x2 hx1 hI hK
  refine ⟨rfl, fun X hX => ?_⟩
  have b19 : ∀ (f : mFn) (g : mGn), cI n e f0 f g → X 19 [] [] f g := by
    intro  f g  hI
    refine hX.1 1 _ rfl _ _ _ _ ?_
    exact And.intro mRt_v (hK _ _ hI)
  refine hX.1 0 _ rfl _ _ _ _ ?_
  refine And.intro (rg_in (rg_c (a := 63) (b := 63) (by decide +kernel)) (by decide +kernel)) ?_
  refine And.intro (fun c3 => ?_) (fun c3 => ?_)
  · -- 19
    exact hX.2 _ _ [] _ _ _ mW0 (b19  _ _  hI)
  · -- on
    refine And.intro (rg_in hx1 (by decide +kernel)) ?_
    exact hX.2 _ _ [] _ _ _ mW0 (b19  _ _  (gI_a0 hI (by decide +kernel)))
def SPX5_storeVectorControl (S : mSp) : Prop := ∀ (n e : Int) (f0 f : mFn) (g : mGn) (K : mKr) (x1 : Int32), cI n e f0 f g → (∀ (f' : mFn) (g' : mGn), cI n e f0 f' g' → K none f' g') → S [.inr 1, .inl x1] f g K
set_option maxRecDepth 100000 in
set_option maxHeartbeats 4000000 in
theorem sfX5_storeVectorControl : SPX5_storeVectorControl spX5_storeVectorControl := by
  intro n e f0 f g K x1  hI hK
  refine ⟨rfl, fun X hX => ?_⟩
  have b53 : ∀ (f : mFn) (g : mGn), cI n e f0 f g → X 53 [] [] f g := by
    intro  f g  hI
    refine hX.1 2 _ rfl _ _ _ _ ?_
    exact And.intro mRt_v (hK _ _ hI)
  refine hX.1 0 _ rfl _ _ _ _ ?_
  refine And.intro (rg_in (rg_c (a := 85) (b := 85) (by decide +kernel)) (by decide +kernel)) ?_
  refine And.intro (fun c7 => ?_) (fun c7 => ?_)
  · -- 32
    refine hX.1 1 _ rfl _ _ _ _ ?_
    refine And.intro (fun c8 => ?_) (fun c8 => ?_)
    · -- 53
      exact hX.2 _ _ [] _ _ _ mW0 (b53  _ _  hI)
    · -- on
      refine And.intro (rg_in (rg_c (a := 85) (b := 85) (by decide +kernel)) (by decide +kernel)) ?_
      exact hX.2 _ _ [] _ _ _ mW0 (b53  _ _  (cP0 (gI_a0 hI (by decide +kernel)) (by decide +kernel)))
  · -- on
    refine And.intro (rg_in (rg_c (a := 85) (b := 85) (by decide +kernel)) (by decide +kernel)) ?_
    exact hX.2 _ _ [] _ _ _ mW0 (b53  _ _  (cP0 (gI_a0 hI (by decide +kernel)) (by decide +kernel)))
def SPX3_storeControl (S : mSp) : Prop := ∀ (n e : Int) (f0 f : mFn) (g : mGn) (K : mKr) (x1 : Int32), cI n e f0 f g → (∀ (f' : mFn) (g' : mGn), cI n e f0 f' g' → K none f' g') → S [.inr 3, .inl x1] f g K
set_option maxRecDepth 100000 in
set_option maxHeartbeats 4000000 in
theorem sfX3_storeControl : SPX3_storeControl spX3_storeControl := by
  intro n e f0 f g K x1  hI hK
  refine ⟨rfl, fun X hX => ?_⟩
  have b62 : ∀ (s1 : Int32) (f : mFn) (g : mGn), rg 0 4 s1 → cI n e f0 f g → X 62 [] [.inl s1, .inr 3] f g := by
    intro s1 f g hs1 hI
    refine hX.1 3 _ rfl _ _ _ _ ?_
    exact And.intro mRt_v (hK _ _ (cP0 hI (by decide +kernel)))
  refine hX.1 0 _ rfl _ _ _ _ ?_
  refine And.intro (rg_in (rg_c (a := 87) (b := 87) (by decide +kernel)) (by decide +kernel)) ?_
  refine And.intro (fun c7 => ?_) (fun c7 => ?_)
  · -- 33
    refine hX.1 1 _ rfl _ _ _ _ ?_
    refine And.intro (rg_in (rg_c (a := 87) (b := 87) (by decide +kernel)) (by decide +kernel)) ?_
    refine And.intro (fun c9 => ?_) (fun c9 => ?_)
    · -- 61
      refine hX.1 2 _ rfl _ _ _ _ ?_
      exact hX.2 _ _ [] _ _ _ mW0 (b62 _ _ _ (rg_w (c := 0) (d := 4) (rg_c (a := 0) (b := 0) (by decide +kernel)) (by decide +kernel)) (gI_a0 hI (by decide +kernel)))
    · -- on
      exact hX.2 _ _ [] _ _ _ mW0 (b62 _ _ _ (rg_w (c := 0) (d := 4) (rg_c (a := 4) (b := 4) (by decide +kernel)) (by decide +kernel)) (gI_a0 hI (by decide +kernel)))
  · -- on
    refine And.intro (rg_in (rg_c (a := 87) (b := 87) (by decide +kernel)) (by decide +kernel)) ?_
    exact And.intro mRt_v (hK _ _ (gI_a0 hI (by decide +kernel)))
def SPX7_storeControl (S : mSp) : Prop := ∀ (n e : Int) (f0 f : mFn) (g : mGn) (K : mKr) (x1 : Int32), cI n e f0 f g → (∀ (f' : mFn) (g' : mGn), cI n e f0 f' g' → K none f' g') → S [.inr 7, .inl x1] f g K
set_option maxRecDepth 100000 in
set_option maxHeartbeats 4000000 in
theorem sfX7_storeControl : SPX7_storeControl spX7_storeControl := by
  intro n e f0 f g K x1  hI hK
  refine ⟨rfl, fun X hX => ?_⟩
  have b106 : ∀ (a2 : Int32) (f : mFn) (g : mGn), cI n e f0 f g → X 106 [(0, .inr 7), (2, .inl a2)] [] f g := by
    intro a2 f g  hI
    refine hX.1 4 _ rfl _ _ _ _ ?_
    refine And.intro (rg_in (rg_c (a := 96) (b := 96) (by decide +kernel)) (by decide +kernel)) ?_
    exact And.intro mRt_v (hK _ _ (gI_a0 hI (by decide +kernel)))
  have b82 : ∀ (a1 : Int32) (a2 : Int32) (f : mFn) (g : mGn), cI n e f0 f g → X 82 [(0, .inr 7), (1, .inl a1), (2, .inl a2)] [] f g := by
    intro a1 a2 f g  hI
    refine hX.1 3 _ rfl _ _ _ _ ?_
    refine And.intro (fun c10 => ?_) (fun c10 => ?_)
    · -- 106
      exact hX.2 _ _ [(0, .inr 7), (2, .inl _)] _ _ _ (mWc rfl (mWc rfl mW0)) (b106 _ _ _  hI)
    · -- on
      refine And.intro (fun c11 => ?_) (fun c11 => ?_)
      · -- 106
        exact hX.2 _ _ [(0, .inr 7), (2, .inl _)] _ _ _ (mWc rfl (mWc rfl mW0)) (b106 _ _ _  hI)
      · -- on
        exact hX.2 _ _ [(0, .inr 7), (2, .inl _)] _ _ _ (mWc rfl (mWc rfl mW0)) (b106 _ _ _  (cP0 hI (by decide +kernel)))
  have b20 : ∀ (a1 : Int32) (a2 : Int32) (s0 : Int32) (f : mFn) (g : mGn), rg 0 1 s0 → cI n e f0 f g → X 20 [(0, .inr 7), (1, .inl a1), (2, .inl a2)] [.inl s0] f g := by
    intro a1 a2 s0 f g hs0 hI
    refine hX.1 2 _ rfl _ _ _ _ ?_
    refine And.intro (fun c13 => ?_) (fun c13 => ?_)
    · -- 82
      exact hX.2 _ _ [(0, .inr 7), (1, .inl _), (2, .inl _)] _ _ _ (mWc rfl (mWc rfl (mWc rfl mW0))) (b82 _ _ _ _  hI)
    · -- on
      refine And.intro (fun c14 => ?_) (fun c14 => ?_)
      · -- 82
        exact hX.2 _ _ [(0, .inr 7), (1, .inl _), (2, .inl _)] _ _ _ (mWc rfl (mWc rfl (mWc rfl mW0))) (b82 _ _ _ _  hI)
      · -- on
        refine And.intro (rg_in (rg_c (a := 84) (b := 84) (by decide +kernel)) (by decide +kernel)) ?_
        exact hX.2 _ _ [(0, .inr 7), (2, .inl _)] _ _ _ (mWc rfl (mWc rfl mW0)) (b106 _ _ _  (cP0 hI (by decide +kernel)))
  refine hX.1 0 _ rfl _ _ _ _ ?_
  refine And.intro (rg_in (rg_c (a := 96) (b := 96) (by decide +kernel)) (by decide +kernel)) ?_
  refine And.intro (fun c16 => ?_) (fun c16 => ?_)
  · -- 19
    refine hX.1 1 _ rfl _ _ _ _ ?_
    exact hX.2 _ _ [(0, .inr 7), (1, .inl _), (2, .inl _)] _ _ _ (mWc rfl (mWc rfl (mWc rfl mW0))) (b20 _ _ _ _ _ (rg_w (c := 0) (d := 1) (rg_c (a := 0) (b := 0) (by decide +kernel)) (by decide +kernel)) hI)
  · -- on
    exact hX.2 _ _ [(0, .inr 7), (1, .inl _), (2, .inl _)] _ _ _ (mWc rfl (mWc rfl (mWc rfl mW0))) (b20 _ _ _ _ _ (rg_w (c := 0) (d := 1) (rg_c (a := 1) (b := 1) (by decide +kernel)) (by decide +kernel)) hI)
def SPX4_storeState (S : mSp) : Prop := ∀ (n e : Int) (f0 f : mFn) (g : mGn) (K : mKr) (x1 : Int32), cI n e f0 f g → (∀ (f' : mFn) (g' : mGn), cI n e f0 f' g' → K none f' g') → S [.inr 5, .inl x1] f g K
set_option maxRecDepth 100000 in
set_option maxHeartbeats 4000000 in
theorem sfX4_storeState : SPX4_storeState spX4_storeState := by
  intro n e f0 f g K x1  hI hK
  refine ⟨rfl, fun X hX => ?_⟩
  refine hX.1 0 _ rfl _ _ _ _ ?_
  refine And.intro (rg_in (rg_c (a := 192) (b := 192) (by decide +kernel)) (by decide +kernel)) ?_
  refine And.intro (rg_in (rg_c (a := 192) (b := 192) (by decide +kernel)) (by decide +kernel)) ?_
  exact And.intro mRt_v (hK _ _ (gI_a0 hI (by decide +kernel)))
def SPX4_storeParts (S : mSp) : Prop := ∀ (n e : Int) (f0 f : mFn) (g : mGn) (K : mKr) (x1 : Int32), cI n e f0 f g → (∀ (f' : mFn) (g' : mGn), cI n e f0 f' g' → K none f' g') → S [.inr 5, .inl x1] f g K
-- by hand: writes counted scalar 327
theorem sfX4_storeParts : SPX4_storeParts spX4_storeParts := by
  sorry
def SPX4_storeData (S : mSp) : Prop := ∀ (n e : Int) (f0 f : mFn) (g : mGn) (K : mKr) (x1 : Int32), cI n e f0 f g → (∀ (f' : mFn) (g' : mGn), cI n e f0 f' g' → K none f' g') → S [.inr 5, .inl x1] f g K
-- by hand: writes counted scalar 327
theorem sfX4_storeData : SPX4_storeData spX4_storeData := by
  sorry
def SPX5_store (S : mSp) : Prop := ∀ (n e : Int) (f0 f : mFn) (g : mGn) (K : mKr) (x1 : Int32) (x2 : Int32), n + 1 ≤ 300000000 → cI n e f0 f g → (∀ (f' : mFn) (g' : mGn), cI (n + 1) e f0 f' g' → K none f' g') → S [.inr 1, .inl x1, .inl x2] f g K
-- by hand: writes counted scalar 72
theorem sfX5_store : SPX5_store spX5_store := by
  sorry
def SPX4_take (S : mSp) : Prop := ∀ (n e : Int) (f0 f : mFn) (g : mGn) (K : mKr), cI n e f0 f g → (∀ (y : Int32) (f' : mFn) (g' : mGn), cI n e f0 f' g' → K (some (.inl y)) f' g') → S [.inr 5] f g K
set_option maxRecDepth 100000 in
set_option maxHeartbeats 4000000 in
theorem sfX4_take : SPX4_take spX4_take := by
  intro n e f0 f g K   hI hK
  refine ⟨rfl, fun X hX => ?_⟩
  have b66 : ∀ (a1 : Int32) (f : mFn) (g : mGn), cI n e f0 f g → X 66 [(1, .inl a1)] [] f g := by
    intro a1 f g  hI
    refine hX.1 2 _ rfl _ _ _ _ ?_
    exact And.intro mRt_i (hK _ _ _ hI)
  refine hX.1 0 _ rfl _ _ _ _ ?_
  refine And.intro (rg_in (rg_c (a := 192) (b := 192) (by decide +kernel)) (by decide +kernel)) ?_
  refine And.intro (rg_in (rg_c (a := 192) (b := 192) (by decide +kernel)) (by decide +kernel)) ?_
  refine And.intro (fun c8 => ?_) (fun c8 => ?_)
  · -- 22
    refine hX.1 1 _ rfl _ _ _ _ ?_
    refine And.intro (fun c11 => ?_) (fun c11 => ?_)
    · -- 66
      exact hX.2 _ _ [(1, .inl _)] _ _ _ (mWc rfl mW0) (b66 _ _ _  (cP0 (cP0 (gI_a0 hI (by decide +kernel)) (by decide +kernel)) (by decide +kernel)))
    · -- on
      refine And.intro (rg_in (rg_c (a := 192) (b := 192) (by decide +kernel)) (by decide +kernel)) ?_
      refine And.intro (rg_in (rg_c (a := 192) (b := 192) (by decide +kernel)) (by decide +kernel)) ?_
      exact hX.2 _ _ [(1, .inl _)] _ _ _ (mWc rfl mW0) (b66 _ _ _  (gI_a0 (cP0 (cP0 (gI_a0 hI (by decide +kernel)) (by decide +kernel)) (by decide +kernel)) (by decide +kernel)))
  · -- on
    exact And.intro mRt_i (hK _ _ _ (gI_a0 hI (by decide +kernel)))
def SPX5_load (S : mSp) : Prop := ∀ (n e : Int) (f0 f : mFn) (g : mGn) (K : mKr) (x1 : Int32), cI n e f0 f g → (∀ (y : Int32) (f' : mFn) (g' : mGn), cI n e f0 f' g' → K (some (.inl y)) f' g') → S [.inr 1, .inl x1] f g K
set_option maxRecDepth 100000 in
set_option maxHeartbeats 4000000 in
theorem sfX5_load : SPX5_load spX5_load := by
  intro n e f0 f g K x1  hI hK
  refine ⟨rfl, fun X hX => ?_⟩
  obtain ⟨S_X4_take, k_X4_take, hX⟩ : ∃ S_X4_take, SPX4_take S_X4_take ∧ mR shC fdX5_load [(83, 0, 0, 7, S_X4_take)] bsX5_load (fun r f g => mRt (some .int) r ∧ K r f g) X := ⟨spX4_take, sfX4_take, hX⟩
  have b11 : ∀ (f : mFn) (g : mGn), cI n e f0 f g → X 11 [] [] f g := by
    intro  f g  hI
    refine hX.1 1 _ rfl _ _ _ _ ?_
    exact And.intro mRt_i (hK _ _ _ hI)
  refine hX.1 0 _ rfl _ _ _ _ ?_
  refine And.intro (fun c8 => ?_) (fun c8 => ?_)
  · -- 11
    exact hX.2 _ _ [] _ _ _ mW0 (b11  _ _  hI)
  · -- on
    refine And.intro (fun c9 => ?_) (fun c9 => ?_)
    · -- 13
      refine hX.1 2 _ rfl _ _ _ _ ?_
      refine And.intro (fun c10 => ?_) (fun c10 => ?_)
      · -- 28
        refine hX.1 3 _ rfl _ _ _ _ ?_
        refine And.intro (fun c11 => ?_) (fun c11 => ?_)
        · -- 61
          refine hX.1 4 _ rfl _ _ _ _ ?_
          refine And.intro (rg_in (show rg 0 1279 _ from (rg_lt (show rg 0 2147483647 _ from (rg_ge (rg_all _) (rg_c (a := 0) (b := 0) (by decide +kernel)) (rg_nlt c8) (by decide +kernel))) (rg_c (a := 1280) (b := 1280) (by decide +kernel)) c9 (by decide +kernel))) (by decide +kernel)) ?_
          exact And.intro mRt_i (hK _ _ _ hI)
        · -- on
          refine And.intro (rg_in (rg_c (a := 36) (b := 36) (by decide +kernel)) (by decide +kernel)) ?_
          refine And.intro (rg_in (rg_c (a := 37) (b := 37) (by decide +kernel)) (by decide +kernel)) ?_
          exact And.intro mRt_i (hK _ _ _ hI)
      · -- on
        refine k_X4_take n _ f0 _ _ _  hI (fun y12 f13 gf13 hI14 => ?_)
        exact And.intro mRt_i (hK _ _ _ hI14)
    · -- on
      exact hX.2 _ _ [] _ _ _ mW0 (b11  _ _  hI)
def SPX1_atDistance (S : mSp) : Prop := ∀ (n e : Int) (f0 f : mFn) (g : mGn) (K : mKr) (x1 : Int32), n + 1 ≤ 300000000 → cI n e f0 f g → (∀ (y : Int32) (f' : mFn) (g' : mGn), rg 2 2 y → cI (n + 1) e f0 f' g' → K (some (.inl y)) f' g') → S [.inr 2, .inl x1] f g K
set_option maxRecDepth 100000 in
set_option maxHeartbeats 4000000 in
theorem sfX1_atDistance : SPX1_atDistance spX1_atDistance := by
  intro n e f0 f g K x1  hB hI hK
  refine ⟨rfl, fun X hX => ?_⟩
  obtain ⟨S_X1_pair, k_X1_pair, S_X1_first, k_X1_first, S_X5_store, k_X5_store, S_X5_load, k_X5_load, hX⟩ : ∃ S_X1_pair, SPX1_pair S_X1_pair ∧ ∃ S_X1_first, SPX1_first S_X1_first ∧ ∃ S_X5_store, SPX5_store S_X5_store ∧ ∃ S_X5_load, SPX5_load S_X5_load ∧ mR shC fdX1_atDistance [(149, 0, 1, 4, S_X1_pair), (113, 1, 1, 0, S_X1_first), (179, 0, 2, 8, S_X5_store), (182, 0, 1, 8, S_X5_load)] bsX1_atDistance (fun r f g => mRt (some .int) r ∧ K r f g) X := ⟨spX1_pair, sfX1_pair, spX1_first, sfX1_first, spX5_store, sfX5_store, spX5_load, sfX5_load, hX⟩
  have b90 : ∀ (f : mFn) (g : mGn), cI (n + 1) e f0 f g → X 90 [] [] f g := by
    intro  f g  hI
    refine hX.1 4 _ rfl _ _ _ _ ?_
    exact And.intro mRt_i (hK _ _ _ (rg_w (c := 2) (d := 2) (rg_c (a := 2) (b := 2) (by decide +kernel)) (by decide +kernel)) hI)
  have b36 : ∀ (a1 : Int32) (a2 : Int32) (s1 : Int32) (f : mFn) (g : mGn), rg 0 63 a2 → rg 28 30 s1 → cI n e f0 f g → X 36 [(0, .inr 2), (1, .inl a1), (2, .inl a2)] [.inl s1, .inr 2] f g := by
    intro a1 a2 s1 f g ha2 hs1 hI
    refine hX.1 2 _ rfl _ _ _ _ ?_
    refine k_X1_pair n _ f0 _ _ _ _ (rg_w (c := 0) (d := 30) hs1 (by decide +kernel)) hI (fun y19 f20 gf20 hI21 => ?_)
    refine And.intro (fun c22 => ?_) (fun c22 => ?_)
    · -- 73
      refine hX.1 3 _ rfl _ _ _ _ ?_
      refine k_X1_first n _ f0 _ _ _ _  hI21 (fun y23 f24 gf24 hy23 hI25 => ?_)
      refine k_X5_load n _ f0 _ _ _ _  hI25 (fun y26 f27 gf27 hI28 => ?_)
      refine And.intro (rg_in hy23 (by decide +kernel)) ?_
      exact hX.2 _ _ [] _ _ _ mW0 (b90  _ _  (cM (gI_a0 hI28 (by decide +kernel)) (by omega) (by omega)))
    · -- on
      refine k_X1_first n _ f0 _ _ _ _  hI21 (fun y30 f31 gf31 hy30 hI32 => ?_)
      refine And.intro (rg_in hy30 (by decide +kernel)) ?_
      refine k_X5_store n _ f0 _ _ _ _ _  (by omega) hI32 (fun f34 gf34 hI35 => ?_)
      exact hX.2 _ _ [] _ _ _ mW0 (b90  _ _  hI35)
  refine hX.1 0 _ rfl _ _ _ _ ?_
  refine And.intro (fun c36 => ?_) (fun c36 => ?_)
  · -- 34
    refine hX.1 1 _ rfl _ _ _ _ ?_
    exact hX.2 _ _ [(0, .inr 2), (1, .inl _), (2, .inl _)] _ _ _ (mWc rfl (mWc rfl (mWc rfl mW0))) (b36 _ _ _ _ _ (rg_w (c := 0) (d := 63) (show rg 0 63 _ from (rg_or (k := 6) (show rg 0 63 _ from (rg_or (k := 6) (show rg 0 32 _ from (rg_andR (rg_c (a := 32) (b := 32) (by decide +kernel)) (by decide +kernel))) (show rg 0 24 _ from (rg_andR (rg_c (a := 24) (b := 24) (by decide +kernel)) (by decide +kernel))) (by decide +kernel))) (show rg 0 7 _ from (rg_andR (rg_c (a := 7) (b := 7) (by decide +kernel)) (by decide +kernel))) (by decide +kernel))) (by decide +kernel)) (rg_w (c := 28) (d := 30) (rg_c (a := 30) (b := 30) (by decide +kernel)) (by decide +kernel)) hI)
  · -- on
    exact hX.2 _ _ [(0, .inr 2), (1, .inl _), (2, .inl _)] _ _ _ (mWc rfl (mWc rfl (mWc rfl mW0))) (b36 _ _ _ _ _ (rg_w (c := 0) (d := 63) (show rg 0 63 _ from (rg_or (k := 6) (show rg 0 63 _ from (rg_or (k := 6) (show rg 0 32 _ from (rg_andR (rg_c (a := 32) (b := 32) (by decide +kernel)) (by decide +kernel))) (show rg 0 24 _ from (rg_andR (rg_c (a := 24) (b := 24) (by decide +kernel)) (by decide +kernel))) (by decide +kernel))) (show rg 0 7 _ from (rg_andR (rg_c (a := 7) (b := 7) (by decide +kernel)) (by decide +kernel))) (by decide +kernel))) (by decide +kernel)) (rg_w (c := 28) (d := 30) (rg_c (a := 28) (b := 28) (by decide +kernel)) (by decide +kernel)) hI)
def SPX1_branch (S : mSp) : Prop := ∀ (n e : Int) (f0 f : mFn) (g : mGn) (K : mKr) (x1 : Int32) (x2 : Int32), rg 0 1 x2 → cI n e f0 f g → (∀ (y : Int32) (f' : mFn) (g' : mGn), rg 1 2 y → cI n e f0 f' g' → K (some (.inl y)) f' g') → S [.inr 2, .inl x1, .inl x2] f g K
set_option maxRecDepth 100000 in
set_option maxHeartbeats 4000000 in
theorem sfX1_branch : SPX1_branch spX1_branch := by
  intro n e f0 f g K x1 x2 hx2 hI hK
  refine ⟨rfl, fun X hX => ?_⟩
  have b52 : ∀ (s1 : Int32) (s2 : Int32) (f : mFn) (g : mGn), rg (-128) 127 s2 → cI n e f0 f g → X 52 [] [.inl s2, .inl s1, .inr 2] f g := by
    intro s1 s2 f g hs2 hI
    refine hX.1 5 _ rfl _ _ _ _ ?_
    exact And.intro mRt_i (hK _ _ _ (rg_w (c := 1) (d := 2) (rg_c (a := 2) (b := 2) (by decide +kernel)) (by decide +kernel)) (cP0 hI (by decide +kernel)))
  have b13 : ∀ (a1 : Int32) (a2 : Int32) (s0 : Int32) (f : mFn) (g : mGn), rg 0 1 a2 → rg 0 1 s0 → cI n e f0 f g → X 13 [(0, .inr 2), (1, .inl a1), (2, .inl a2)] [.inl s0] f g := by
    intro a1 a2 s0 f g ha2 hs0 hI
    refine hX.1 2 _ rfl _ _ _ _ ?_
    refine And.intro (fun c6 => ?_) (fun c6 => ?_)
    · -- 21
      refine hX.1 3 _ rfl _ _ _ _ ?_
      refine And.intro (fun c7 => ?_) (fun c7 => ?_)
      · -- 46
        refine hX.1 4 _ rfl _ _ _ _ ?_
        exact hX.2 _ _ [] _ _ _ mW0 (b52 _ _ _ _ (rg_w (c := (-128)) (d := 127) (show rg (-128) (-1) _ from (rg_sub (show rg 0 127 _ from (rg_andR (rg_c (a := 127) (b := 127) (by decide +kernel)) (by decide +kernel))) (rg_c (a := 128) (b := 128) (by decide +kernel)) (by decide +kernel))) (by decide +kernel)) hI)
      · -- on
        exact hX.2 _ _ [] _ _ _ mW0 (b52 _ _ _ _ (rg_w (c := (-128)) (d := 127) (show rg 0 127 _ from (rg_andR (rg_c (a := 127) (b := 127) (by decide +kernel)) (by decide +kernel))) (by decide +kernel)) hI)
    · -- on
      exact And.intro mRt_i (hK _ _ _ (rg_w (c := 1) (d := 2) (rg_c (a := 1) (b := 1) (by decide +kernel)) (by decide +kernel)) hI)
  refine hX.1 0 _ rfl _ _ _ _ ?_
  refine And.intro (fun c8 => ?_) (fun c8 => ?_)
  · -- 12
    refine hX.1 1 _ rfl _ _ _ _ ?_
    exact hX.2 _ _ [(0, .inr 2), (1, .inl _), (2, .inl _)] _ _ _ (mWc rfl (mWc rfl (mWc rfl mW0))) (b13 _ _ _ _ _ (rg_w (c := 0) (d := 1) hx2 (by decide +kernel)) (rg_w (c := 0) (d := 1) (rg_c (a := 0) (b := 0) (by decide +kernel)) (by decide +kernel)) hI)
  · -- on
    exact hX.2 _ _ [(0, .inr 2), (1, .inl _), (2, .inl _)] _ _ _ (mWc rfl (mWc rfl (mWc rfl mW0))) (b13 _ _ _ _ _ (rg_w (c := 0) (d := 1) hx2 (by decide +kernel)) (rg_w (c := 0) (d := 1) (rg_c (a := 1) (b := 1) (by decide +kernel)) (by decide +kernel)) hI)
def SPX3_seen (S : mSp) : Prop := ∀ (n e : Int) (f0 f : mFn) (g : mGn) (K : mKr) (x1 : Int32), cI n e f0 f g → (∀ (y : Int32) (f' : mFn) (g' : mGn), cI n e f0 f' g' → K (some (.inl y)) f' g') → S [.inr 3, .inl x1] f g K
set_option maxRecDepth 100000 in
set_option maxHeartbeats 4000000 in
theorem sfX3_seen : SPX3_seen spX3_seen := by
  intro n e f0 f g K x1  hI hK
  refine ⟨rfl, fun X hX => ?_⟩
  have b37 : ∀ (s0 : Int32) (f : mFn) (g : mGn), cI n e f0 f g → X 37 [] [.inl s0] f g := by
    intro s0 f g  hI
    refine hX.1 2 _ rfl _ _ _ _ ?_
    exact And.intro mRt_i (hK _ _ _ hI)
  have b31 : ∀ (a2 : Int32) (f : mFn) (g : mGn), rg 0 2047 a2 → cI n e f0 f g → X 31 [(0, .inr 3), (2, .inl a2)] [] f g := by
    intro a2 f g ha2 hI
    refine hX.1 1 _ rfl _ _ _ _ ?_
    refine And.intro (rg_in ha2 (by decide +kernel)) ?_
    exact hX.2 _ _ [] _ _ _ mW0 (b37 _ _ _  hI)
  refine hX.1 0 _ rfl _ _ _ _ ?_
  refine And.intro (fun c3 => ?_) (fun c3 => ?_)
  · -- 31
    exact hX.2 _ _ [(0, .inr 3), (2, .inl _)] _ _ _ (mWc rfl (mWc rfl mW0)) (b31 _ _ _ (rg_w (c := 0) (d := 2047) (show rg 0 2047 _ from (rg_andR (rg_c (a := 2047) (b := 2047) (by decide +kernel)) (by decide +kernel))) (by decide +kernel)) hI)
  · -- on
    refine And.intro (rg_in (rg_c (a := 87) (b := 87) (by decide +kernel)) (by decide +kernel)) ?_
    refine And.intro (fun c4 => ?_) (fun c4 => ?_)
    · -- 31
      exact hX.2 _ _ [(0, .inr 3), (2, .inl _)] _ _ _ (mWc rfl (mWc rfl mW0)) (b31 _ _ _ (rg_w (c := 0) (d := 2047) (show rg 0 2047 _ from (rg_andR (rg_c (a := 2047) (b := 2047) (by decide +kernel)) (by decide +kernel))) (by decide +kernel)) hI)
    · -- on
      exact hX.2 _ _ [] _ _ _ mW0 (b37 _ _ _  hI)
def SPX1_nextWord (S : mSp) : Prop := ∀ (n e : Int) (f0 f : mFn) (g : mGn) (K : mKr), cI n e f0 f g → (∀ (y : Int32) (f' : mFn) (g' : mGn), cI n e f0 f' g' → K (some (.inl y)) f' g') → S [.inr 2] f g K
set_option maxRecDepth 100000 in
set_option maxHeartbeats 4000000 in
theorem sfX1_nextWord : SPX1_nextWord spX1_nextWord := by
  intro n e f0 f g K   hI hK
  refine ⟨rfl, fun X hX => ?_⟩
  obtain ⟨S_X3_seen, k_X3_seen, hX⟩ : ∃ S_X3_seen, SPX3_seen S_X3_seen ∧ mR shC fdX1_nextWord [(126, 0, 1, 6, S_X3_seen)] bsX1_nextWord (fun r f g => mRt (some .int) r ∧ K r f g) X := ⟨spX3_seen, sfX3_seen, hX⟩
  refine hX.1 0 _ rfl _ _ _ _ ?_
  refine k_X3_seen n _ f0 _ _ _ _  hI (fun y5 f6 gf6 hI7 => ?_)
  exact And.intro mRt_i (hK _ _ _ (cP0 hI7 (by decide +kernel)))
def SPX1_skipIf (S : mSp) : Prop := ∀ (n e : Int) (f0 f : mFn) (g : mGn) (K : mKr) (x1 : Int32), rg 0 1 x1 → cI n e f0 f g → (∀ (y : Int32) (f' : mFn) (g' : mGn), rg 1 3 y → cI n e f0 f' g' → K (some (.inl y)) f' g') → S [.inr 2, .inl x1] f g K
set_option maxRecDepth 100000 in
set_option maxHeartbeats 4000000 in
theorem sfX1_skipIf : SPX1_skipIf spX1_skipIf := by
  intro n e f0 f g K x1 hx1 hI hK
  refine ⟨rfl, fun X hX => ?_⟩
  obtain ⟨S_X1_nextWord, k_X1_nextWord, hX⟩ : ∃ S_X1_nextWord, SPX1_nextWord S_X1_nextWord ∧ mR shC fdX1_skipIf [(50, 0, 0, 4, S_X1_nextWord)] bsX1_skipIf (fun r f g => mRt (some .int) r ∧ K r f g) X := ⟨spX1_nextWord, sfX1_nextWord, hX⟩
  have b34 : ∀ (s0 : Int32) (f : mFn) (g : mGn), rg 0 1 s0 → cI n e f0 f g → X 34 [(0, .inr 2)] [.inl s0] f g := by
    intro s0 f g hs0 hI
    refine hX.1 4 _ rfl _ _ _ _ ?_
    refine And.intro (fun c11 => ?_) (fun c11 => ?_)
    · -- 41
      refine hX.1 5 _ rfl _ _ _ _ ?_
      refine k_X1_nextWord n _ f0 _ _ _  hI (fun y12 f13 gf13 hI14 => ?_)
      exact And.intro mRt_i (hK _ _ _ (rg_w (c := 1) (d := 3) (rg_c (a := 3) (b := 3) (by decide +kernel)) (by decide +kernel)) hI14)
    · -- on
      exact And.intro mRt_i (hK _ _ _ (rg_w (c := 1) (d := 3) (rg_c (a := 2) (b := 2) (by decide +kernel)) (by decide +kernel)) hI)
  have b29 : ∀ (f : mFn) (g : mGn), cI n e f0 f g → X 29 [(0, .inr 2)] [] f g := by
    intro  f g  hI
    refine hX.1 2 _ rfl _ _ _ _ ?_
    exact hX.2 _ _ [(0, .inr 2)] _ _ _ (mWc rfl mW0) (b34 _ _ _ (rg_w (c := 0) (d := 1) (rg_c (a := 1) (b := 1) (by decide +kernel)) (by decide +kernel)) hI)
  refine hX.1 0 _ rfl _ _ _ _ ?_
  refine And.intro (fun c15 => ?_) (fun c15 => ?_)
  · -- 6
    refine hX.1 1 _ rfl _ _ _ _ ?_
    refine k_X1_nextWord n _ f0 _ _ _  hI (fun y16 f17 gf17 hI18 => ?_)
    refine And.intro (fun c19 => ?_) (fun c19 => ?_)
    · -- 29
      exact hX.2 _ _ [(0, .inr 2)] _ _ _ (mWc rfl mW0) (b29  _ _  hI18)
    · -- on
      refine And.intro (fun c20 => ?_) (fun c20 => ?_)
      · -- 33
        refine hX.1 3 _ rfl _ _ _ _ ?_
        exact hX.2 _ _ [(0, .inr 2)] _ _ _ (mWc rfl mW0) (b34 _ _ _ (rg_w (c := 0) (d := 1) (rg_c (a := 0) (b := 0) (by decide +kernel)) (by decide +kernel)) hI18)
      · -- on
        exact hX.2 _ _ [(0, .inr 2)] _ _ _ (mWc rfl mW0) (b29  _ _  hI18)
  · -- on
    exact And.intro mRt_i (hK _ _ _ (rg_w (c := 1) (d := 3) (rg_c (a := 1) (b := 1) (by decide +kernel)) (by decide +kernel)) hI)
def SPX1_byBit (S : mSp) : Prop := ∀ (n e : Int) (f0 f : mFn) (g : mGn) (K : mKr) (x1 : Int32), cI n e f0 f g → (∀ (y : Int32) (f' : mFn) (g' : mGn), rg 1 3 y → cI n e f0 f' g' → K (some (.inl y)) f' g') → S [.inr 2, .inl x1] f g K
set_option maxRecDepth 100000 in
set_option maxHeartbeats 4000000 in
theorem sfX1_byBit : SPX1_byBit spX1_byBit := by
  intro n e f0 f g K x1  hI hK
  refine ⟨rfl, fun X hX => ?_⟩
  obtain ⟨S_X1_branch, k_X1_branch, S_X1_first, k_X1_first, S_X1_skipIf, k_X1_skipIf, hX⟩ : ∃ S_X1_branch, SPX1_branch S_X1_branch ∧ ∃ S_X1_first, SPX1_first S_X1_first ∧ ∃ S_X1_skipIf, SPX1_skipIf S_X1_skipIf ∧ mR shC fdX1_byBit [(231, 0, 2, 4, S_X1_branch), (113, 1, 1, 0, S_X1_first), (166, 0, 1, 4, S_X1_skipIf)] bsX1_byBit (fun r f g => mRt (some .int) r ∧ K r f g) X := ⟨spX1_branch, sfX1_branch, spX1_first, sfX1_first, spX1_skipIf, sfX1_skipIf, hX⟩
  have b34 : ∀ (s1 : Int32) (s2 : Int32) (f : mFn) (g : mGn), rg 0 1 s2 → cI n e f0 f g → X 34 [] [.inl s2, .inl s1, .inr 2] f g := by
    intro s1 s2 f g hs2 hI
    refine hX.1 2 _ rfl _ _ _ _ ?_
    refine k_X1_branch n _ f0 _ _ _ _ _ (rg_w (c := 0) (d := 1) hs2 (by decide +kernel)) hI (fun y25 f26 gf26 hy25 hI27 => ?_)
    exact And.intro mRt_i (hK _ _ _ (rg_w (c := 1) (d := 3) hy25 (by decide +kernel)) hI27)
  have b122 : ∀ (a2 : Int32) (a3 : Int32) (s0 : Int32) (f : mFn) (g : mGn), rg 0 7 a2 → rg 0 31 a3 → rg 0 1 s0 → cI n e f0 f g → X 122 [(0, .inr 2), (2, .inl a2), (3, .inl a3)] [.inl s0] f g := by
    intro a2 a3 s0 f g ha2 ha3 hs0 hI
    refine hX.1 9 _ rfl _ _ _ _ ?_
    refine And.intro (rg_in ha3 (by decide +kernel)) ?_
    refine And.intro (rg_in ha3 (by decide +kernel)) ?_
    exact And.intro mRt_i (hK _ _ _ (rg_w (c := 1) (d := 3) (rg_c (a := 1) (b := 1) (by decide +kernel)) (by decide +kernel)) (gI_a0 hI (by decide +kernel)))
  have b176 : ∀ (s1 : Int32) (s2 : Int32) (s3 : Int32) (f : mFn) (g : mGn), rg 95 95 s1 → rg 0 64 s3 → cI n e f0 f g → X 176 [] [.inl s3, .inl s2, .inl s1, .inr 9] f g := by
    intro s1 s2 s3 f g hs1 hs3 hI
    refine hX.1 12 _ rfl _ _ _ _ ?_
    refine And.intro (rg_in hs1 (by decide +kernel)) ?_
    exact And.intro mRt_i (hK _ _ _ (rg_w (c := 1) (d := 3) (rg_c (a := 1) (b := 1) (by decide +kernel)) (by decide +kernel)) (gI_a0 hI (by decide +kernel)))
  have b191 : ∀ (s1 : Int32) (f : mFn) (g : mGn), rg 0 1 s1 → cI n e f0 f g → X 191 [] [.inl s1, .inr 2] f g := by
    intro s1 f g hs1 hI
    refine hX.1 15 _ rfl _ _ _ _ ?_
    refine k_X1_skipIf n _ f0 _ _ _ _ (rg_w (c := 0) (d := 1) hs1 (by decide +kernel)) hI (fun y30 f31 gf31 hy30 hI32 => ?_)
    exact And.intro mRt_i (hK _ _ _ (rg_w (c := 1) (d := 3) hy30 (by decide +kernel)) hI32)
  have b70 : ∀ (a1 : Int32) (a2 : Int32) (a3 : Int32) (s0 : Int32) (f : mFn) (g : mGn), rg 0 7 a2 → rg 0 31 a3 → rg 0 1 s0 → cI n e f0 f g → X 70 [(0, .inr 2), (1, .inl a1), (2, .inl a2), (3, .inl a3)] [.inl s0] f g := by
    intro a1 a2 a3 s0 f g ha2 ha3 hs0 hI
    refine hX.1 6 _ rfl _ _ _ _ ?_
    refine And.intro (fun c33 => ?_) (fun c33 => ?_)
    · -- 104
      refine hX.1 7 _ rfl _ _ _ _ ?_
      refine And.intro (rg_in (rg_c (a := 95) (b := 95) (by decide +kernel)) (by decide +kernel)) ?_
      refine And.intro (fun c34 => ?_) (fun c34 => ?_)
      · -- 121
        refine hX.1 8 _ rfl _ _ _ _ ?_
        exact hX.2 _ _ [(0, .inr 2), (2, .inl _), (3, .inl _)] _ _ _ (mWc rfl (mWc rfl (mWc rfl mW0))) (b122 _ _ _ _ _ (rg_w (c := 0) (d := 7) ha2 (by decide +kernel)) (rg_w (c := 0) (d := 31) ha3 (by decide +kernel)) (rg_w (c := 0) (d := 1) (rg_c (a := 0) (b := 0) (by decide +kernel)) (by decide +kernel)) hI)
      · -- on
        exact hX.2 _ _ [(0, .inr 2), (2, .inl _), (3, .inl _)] _ _ _ (mWc rfl (mWc rfl (mWc rfl mW0))) (b122 _ _ _ _ _ (rg_w (c := 0) (d := 7) ha2 (by decide +kernel)) (rg_w (c := 0) (d := 31) ha3 (by decide +kernel)) (rg_w (c := 0) (d := 1) (rg_c (a := 1) (b := 1) (by decide +kernel)) (by decide +kernel)) hI)
    · -- on
      refine And.intro (fun c35 => ?_) (fun c35 => ?_)
      · -- 149
        refine hX.1 10 _ rfl _ _ _ _ ?_
        refine And.intro (rg_in (rg_c (a := 95) (b := 95) (by decide +kernel)) (by decide +kernel)) ?_
        refine And.intro (fun c36 => ?_) (fun c36 => ?_)
        · -- 175
          refine hX.1 11 _ rfl _ _ _ _ ?_
          exact hX.2 _ _ [] _ _ _ mW0 (b176 _ _ _ _ _ (rg_w (c := 95) (d := 95) (rg_c (a := 95) (b := 95) (by decide +kernel)) (by decide +kernel)) (rg_w (c := 0) (d := 64) (rg_c (a := 0) (b := 0) (by decide +kernel)) (by decide +kernel)) hI)
        · -- on
          exact hX.2 _ _ [] _ _ _ mW0 (b176 _ _ _ _ _ (rg_w (c := 95) (d := 95) (rg_c (a := 95) (b := 95) (by decide +kernel)) (by decide +kernel)) (rg_w (c := 0) (d := 64) (rg_c (a := 64) (b := 64) (by decide +kernel)) (by decide +kernel)) hI)
      · -- on
        refine And.intro (fun c37 => ?_) (fun c37 => ?_)
        · -- 180
          refine hX.1 13 _ rfl _ _ _ _ ?_
          refine And.intro (fun c38 => ?_) (fun c38 => ?_)
          · -- 190
            refine hX.1 14 _ rfl _ _ _ _ ?_
            exact hX.2 _ _ [] _ _ _ mW0 (b191 _ _ _ (rg_w (c := 0) (d := 1) (rg_c (a := 0) (b := 0) (by decide +kernel)) (by decide +kernel)) hI)
          · -- on
            exact hX.2 _ _ [] _ _ _ mW0 (b191 _ _ _ (rg_w (c := 0) (d := 1) (rg_c (a := 1) (b := 1) (by decide +kernel)) (by decide +kernel)) hI)
        · -- on
          refine hX.1 16 _ rfl _ _ _ _ ?_
          refine k_X1_skipIf n _ f0 _ _ _ _ (rg_w (c := 0) (d := 1) hs0 (by decide +kernel)) hI (fun y39 f40 gf40 hy39 hI41 => ?_)
          exact And.intro mRt_i (hK _ _ _ (rg_w (c := 1) (d := 3) hy39 (by decide +kernel)) hI41)
  refine hX.1 0 _ rfl _ _ _ _ ?_
  refine And.intro (fun c42 => ?_) (fun c42 => ?_)
  · -- 38
    refine hX.1 3 _ rfl _ _ _ _ ?_
    refine And.intro (fun c43 => ?_) (fun c43 => ?_)
    · -- 47
      refine hX.1 4 _ rfl _ _ _ _ ?_
      refine k_X1_first n _ f0 _ _ _ _  hI (fun y44 f45 gf45 hy44 hI46 => ?_)
      refine And.intro (rg_in hy44 (by decide +kernel)) ?_
      refine And.intro (fun c47 => ?_) (fun c47 => ?_)
      · -- 69
        refine hX.1 5 _ rfl _ _ _ _ ?_
        exact hX.2 _ _ [(0, .inr 2), (1, .inl _), (2, .inl _), (3, .inl _)] _ _ _ (mWc rfl (mWc rfl (mWc rfl (mWc rfl mW0)))) (b70 _ _ _ _ _ _ (rg_w (c := 0) (d := 7) (show rg 0 7 _ from (rg_andR (rg_c (a := 7) (b := 7) (by decide +kernel)) (by decide +kernel))) (by decide +kernel)) (rg_w (c := 0) (d := 31) hy44 (by decide +kernel)) (rg_w (c := 0) (d := 1) (rg_c (a := 0) (b := 0) (by decide +kernel)) (by decide +kernel)) hI46)
      · -- on
        exact hX.2 _ _ [(0, .inr 2), (1, .inl _), (2, .inl _), (3, .inl _)] _ _ _ (mWc rfl (mWc rfl (mWc rfl (mWc rfl mW0)))) (b70 _ _ _ _ _ _ (rg_w (c := 0) (d := 7) (show rg 0 7 _ from (rg_andR (rg_c (a := 7) (b := 7) (by decide +kernel)) (by decide +kernel))) (by decide +kernel)) (rg_w (c := 0) (d := 31) hy44 (by decide +kernel)) (rg_w (c := 0) (d := 1) (rg_c (a := 1) (b := 1) (by decide +kernel)) (by decide +kernel)) hI46)
    · -- on
      exact And.intro mRt_i (hK _ _ _ (rg_w (c := 1) (d := 3) (rg_c (a := 1) (b := 1) (by decide +kernel)) (by decide +kernel)) hI)
  · -- on
    refine And.intro (rg_in (rg_c (a := 95) (b := 95) (by decide +kernel)) (by decide +kernel)) ?_
    refine And.intro (fun c48 => ?_) (fun c48 => ?_)
    · -- 33
      refine hX.1 1 _ rfl _ _ _ _ ?_
      exact hX.2 _ _ [] _ _ _ mW0 (b34 _ _ _ _ (rg_w (c := 0) (d := 1) (rg_c (a := 0) (b := 0) (by decide +kernel)) (by decide +kernel)) hI)
    · -- on
      exact hX.2 _ _ [] _ _ _ mW0 (b34 _ _ _ _ (rg_w (c := 0) (d := 1) (rg_c (a := 1) (b := 1) (by decide +kernel)) (by decide +kernel)) hI)
def SPX1_statusBit (S : mSp) : Prop := ∀ (n e : Int) (f0 f : mFn) (g : mGn) (K : mKr) (x1 : Int32), cI n e f0 f g → (∀ (y : Int32) (f' : mFn) (g' : mGn), rg 1 1 y → cI n e f0 f' g' → K (some (.inl y)) f' g') → S [.inr 2, .inl x1] f g K
set_option maxRecDepth 100000 in
set_option maxHeartbeats 4000000 in
theorem sfX1_statusBit : SPX1_statusBit spX1_statusBit := by
  intro n e f0 f g K x1  hI hK
  refine ⟨rfl, fun X hX => ?_⟩
  have b44 : ∀ (f : mFn) (g : mGn), cI n e f0 f g → X 44 [] [] f g := by
    intro  f g  hI
    refine hX.1 2 _ rfl _ _ _ _ ?_
    exact And.intro mRt_i (hK _ _ _ (rg_w (c := 1) (d := 1) (rg_c (a := 1) (b := 1) (by decide +kernel)) (by decide +kernel)) hI)
  refine hX.1 0 _ rfl _ _ _ _ ?_
  refine And.intro (fun c4 => ?_) (fun c4 => ?_)
  · -- 31
    refine hX.1 1 _ rfl _ _ _ _ ?_
    refine And.intro (rg_in (rg_c (a := 95) (b := 95) (by decide +kernel)) (by decide +kernel)) ?_
    refine And.intro (rg_in (rg_c (a := 95) (b := 95) (by decide +kernel)) (by decide +kernel)) ?_
    exact hX.2 _ _ [] _ _ _ mW0 (b44  _ _  (gI_a0 hI (by decide +kernel)))
  · -- on
    refine And.intro (rg_in (rg_c (a := 95) (b := 95) (by decide +kernel)) (by decide +kernel)) ?_
    refine And.intro (rg_in (rg_c (a := 95) (b := 95) (by decide +kernel)) (by decide +kernel)) ?_
    exact hX.2 _ _ [] _ _ _ mW0 (b44  _ _  (gI_a0 hI (by decide +kernel)))
def SPX5_stackPointer (S : mSp) : Prop := ∀ (n e : Int) (f0 f : mFn) (g : mGn) (K : mKr), cI n e f0 f g → (∀ (y : Int32) (f' : mFn) (g' : mGn), cI n e f0 f' g' → K (some (.inl y)) f' g') → S [.inr 1] f g K
set_option maxRecDepth 100000 in
set_option maxHeartbeats 4000000 in
theorem sfX5_stackPointer : SPX5_stackPointer spX5_stackPointer := by
  intro n e f0 f g K   hI hK
  refine ⟨rfl, fun X hX => ?_⟩
  refine hX.1 0 _ rfl _ _ _ _ ?_
  refine And.intro (rg_in (rg_c (a := 94) (b := 94) (by decide +kernel)) (by decide +kernel)) ?_
  refine And.intro (rg_in (rg_c (a := 93) (b := 93) (by decide +kernel)) (by decide +kernel)) ?_
  exact And.intro mRt_i (hK _ _ _ hI)
def SPX5_moveStack (S : mSp) : Prop := ∀ (n e : Int) (f0 f : mFn) (g : mGn) (K : mKr) (x1 : Int32), cI n e f0 f g → (∀ (f' : mFn) (g' : mGn), cI n e f0 f' g' → K none f' g') → S [.inr 1, .inl x1] f g K
set_option maxRecDepth 100000 in
set_option maxHeartbeats 4000000 in
theorem sfX5_moveStack : SPX5_moveStack spX5_moveStack := by
  intro n e f0 f g K x1  hI hK
  refine ⟨rfl, fun X hX => ?_⟩
  refine hX.1 0 _ rfl _ _ _ _ ?_
  refine And.intro (rg_in (rg_c (a := 94) (b := 94) (by decide +kernel)) (by decide +kernel)) ?_
  refine And.intro (rg_in (rg_c (a := 93) (b := 93) (by decide +kernel)) (by decide +kernel)) ?_
  exact And.intro mRt_v (hK _ _ (gI_a0 (gI_a0 hI (by decide +kernel)) (by decide +kernel)))
def SPX5_pop (S : mSp) : Prop := ∀ (n e : Int) (f0 f : mFn) (g : mGn) (K : mKr), cI n e f0 f g → (∀ (y : Int32) (f' : mFn) (g' : mGn), cI n e f0 f' g' → K (some (.inl y)) f' g') → S [.inr 1] f g K
set_option maxRecDepth 100000 in
set_option maxHeartbeats 4000000 in
theorem sfX5_pop : SPX5_pop spX5_pop := by
  intro n e f0 f g K   hI hK
  refine ⟨rfl, fun X hX => ?_⟩
  obtain ⟨S_X5_stackPointer, k_X5_stackPointer, S_X5_moveStack, k_X5_moveStack, S_X5_load, k_X5_load, hX⟩ : ∃ S_X5_stackPointer, SPX5_stackPointer S_X5_stackPointer ∧ ∃ S_X5_moveStack, SPX5_moveStack S_X5_moveStack ∧ ∃ S_X5_load, SPX5_load S_X5_load ∧ mR shC fdX5_pop [(117, 0, 0, 8, S_X5_stackPointer), (123, 0, 1, 8, S_X5_moveStack), (126, 0, 1, 8, S_X5_load)] bsX5_pop (fun r f g => mRt (some .int) r ∧ K r f g) X := ⟨spX5_stackPointer, sfX5_stackPointer, spX5_moveStack, sfX5_moveStack, spX5_load, sfX5_load, hX⟩
  refine hX.1 0 _ rfl _ _ _ _ ?_
  refine k_X5_stackPointer n _ f0 _ _ _  hI (fun y13 f14 gf14 hI15 => ?_)
  refine k_X5_moveStack n _ f0 _ _ _ _  hI15 (fun f17 gf17 hI18 => ?_)
  refine k_X5_stackPointer n _ f0 _ _ _  hI18 (fun y19 f20 gf20 hI21 => ?_)
  refine k_X5_load n _ f0 _ _ _ _  hI21 (fun y22 f23 gf23 hI24 => ?_)
  exact And.intro mRt_i (hK _ _ _ hI24)
def SPX1_popPc (S : mSp) : Prop := ∀ (n e : Int) (f0 f : mFn) (g : mGn) (K : mKr), cI n e f0 f g → (∀ (f' : mFn) (g' : mGn), cI n e f0 f' g' → K none f' g') → S [.inr 2] f g K
set_option maxRecDepth 100000 in
set_option maxHeartbeats 4000000 in
theorem sfX1_popPc : SPX1_popPc spX1_popPc := by
  intro n e f0 f g K   hI hK
  refine ⟨rfl, fun X hX => ?_⟩
  obtain ⟨S_X5_pop, k_X5_pop, hX⟩ : ∃ S_X5_pop, SPX5_pop S_X5_pop ∧ mR shC fdX1_popPc [(135, 0, 0, 8, S_X5_pop)] bsX1_popPc (fun r f g => mRt none r ∧ K r f g) X := ⟨spX5_pop, sfX5_pop, hX⟩
  refine hX.1 0 _ rfl _ _ _ _ ?_
  refine k_X5_pop n _ f0 _ _ _  hI (fun y8 f9 gf9 hI10 => ?_)
  refine k_X5_pop n _ f0 _ _ _  hI10 (fun y11 f12 gf12 hI13 => ?_)
  exact And.intro mRt_v (hK _ _ (cP0 hI13 (by decide +kernel)))
def SPX3_command (S : mSp) : Prop := ∀ (n e : Int) (f0 f : mFn) (g : mGn) (K : mKr), cI n e f0 f g → (∀ (y : Int32) (f' : mFn) (g' : mGn), rg 0 15 y → cI n e f0 f' g' → K (some (.inl y)) f' g') → S [.inr 3] f g K
set_option maxRecDepth 100000 in
set_option maxHeartbeats 4000000 in
theorem sfX3_command : SPX3_command spX3_command := by
  intro n e f0 f g K   hI hK
  refine ⟨rfl, fun X hX => ?_⟩
  refine hX.1 0 _ rfl _ _ _ _ ?_
  refine And.intro (rg_in (rg_c (a := 87) (b := 87) (by decide +kernel)) (by decide +kernel)) ?_
  exact And.intro mRt_i (hK _ _ _ (rg_w (c := 0) (d := 15) (show rg 0 15 _ from (rg_andR (rg_c (a := 15) (b := 15) (by decide +kernel)) (by decide +kernel))) (by decide +kernel)) hI)
