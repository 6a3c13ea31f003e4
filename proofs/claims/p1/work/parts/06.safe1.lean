def SPX1_atDistance (S : mSp) : Prop := ∀ (n e : Int) (f0 f : mFn) (g : mGn) (K : mKr) (x1 : Int32), n + 1 ≤ 300000000 → cI n e f0 f g → (∀ (y : Int32) (f' : mFn) (g' : mGn), rg 2 2 y → cI (n + 1) e f0 f' g' → K (some (.inl y)) f' g') → S [.inr 2, .inl x1] f g K
set_option maxRecDepth 100000 in
set_option maxHeartbeats 4000000 in
theorem sfX1_atDistance : SPX1_atDistance spX1_atDistance := by
  intro n e f0 f g K x1  hB hI hK
  refine ⟨rfl, fun X hX => ?_⟩
  obtain ⟨S_X1_pair, k_X1_pair, S_X1_first, k_X1_first, S_X5_store, k_X5_store, S_X5_load, k_X5_load, hX⟩ : ∃ S_X1_pair, SPX1_pair S_X1_pair ∧ ∃ S_X1_first, SPX1_first S_X1_first ∧ ∃ S_X5_store, SPX5_store S_X5_store ∧ ∃ S_X5_load, SPX5_load S_X5_load ∧ mR shC fdX1_atDistance [(149, 0, 1, 4, S_X1_pair), (113, 1, 1, 0, S_X1_first), (179, 0, 2, 8, S_X5_store), (182, 0, 1, 8, S_X5_load)] bsX1_atDistance (fun r f g => mRt (some .int) r ∧ K r f g) X := ⟨spX1_pair, sfX1_pair, spX1_first, sfX1_first, spX5_store, sfX5_store, spX5_load, sfX5_load, hX⟩
  have b90 : ∀ (f : mFn) (g : mGn), cI (n + 1) e f0 f g → X 90 [] [] f g := by
    intro f g  hI
    refine hX.1 4 _ rfl _ _ _ _ ?_
    exact And.intro mRt_i (hK _ _ _ (rg_w (c := 2) (d := 2) (rg_c (a := 2) (b := 2) (by decide +kernel)) (by decide +kernel)) hI)
  have b36 : ∀ (a1 : Int32) (a2 : Int32) (s1 : Int32) (f : mFn) (g : mGn), rg 0 63 a2 → rg 28 30 s1 → cI n e f0 f g → X 36 [(0, .inr 2), (1, .inl a1), (2, .inl a2)] [.inl s1, .inr 2] f g := by
    intro a1 a2 s1 f g ha2 hs1 hI
    refine hX.1 2 _ rfl _ _ _ _ ?_
    refine k_X1_pair n e f0 _ _ _ _ (rg_w (c := 0) (d := 30) hs1 (by decide +kernel)) hI (fun y19 => ?_)
    refine And.intro (fun c22 => ?_) (fun c22 => ?_)
    · -- 73
      refine hX.1 3 _ rfl _ _ _ _ ?_
      refine k_X1_first n e f0 _ _ _ _  hI (fun y23 hy23 => ?_)
      refine k_X5_load n e f0 _ _ _ _  hI (fun y26 f27 gf27 hI28 => ?_)
      refine And.intro (rg_in hy23 (by decide +kernel)) ?_
      exact hX.2 _ _ [] _ _ _ mW0 (b90  _ _  (cM (gI_a0 hI28 (by decide +kernel)) (by omega) (by omega)))
    · -- on
      refine k_X1_first n e f0 _ _ _ _  hI (fun y30 hy30 => ?_)
      refine And.intro (rg_in hy30 (by decide +kernel)) ?_
      refine k_X5_store n e f0 _ _ _ _ _  (by omega) hI (fun f34 gf34 hI35 => ?_)
      exact hX.2 _ _ [] _ _ _ mW0 (b90  _ _  hI35)
  refine hX.1 0 _ rfl _ _ _ _ ?_
  refine And.intro (fun c36 => ?_) (fun c36 => ?_)
  · -- 34
    refine hX.1 1 _ rfl _ _ _ _ ?_
    exact hX.2 _ _ [(0, .inr 2), (1, .inl _), (2, .inl _)] _ _ _ (mWc rfl (mWc rfl (mWc rfl mW0))) (b36 _ _ _ _ _ (rg_w (c := 0) (d := 63) (show rg 0 63 _ from (rg_or (k := 6) (show rg 0 63 _ from (rg_or (k := 6) (show rg 0 32 _ from (rg_andR (rg_c (a := 32) (b := 32) (by decide +kernel)) (by decide +kernel))) (show rg 0 24 _ from (rg_andR (rg_c (a := 24) (b := 24) (by decide +kernel)) (by decide +kernel))) (by decide +kernel))) (show rg 0 7 _ from (rg_andR (rg_c (a := 7) (b := 7) (by decide +kernel)) (by decide +kernel))) (by decide +kernel))) (by decide +kernel)) (rg_w (c := 28) (d := 30) (rg_c (a := 30) (b := 30) (by decide +kernel)) (by decide +kernel)) hI)
  · -- on
    exact hX.2 _ _ [(0, .inr 2), (1, .inl _), (2, .inl _)] _ _ _ (mWc rfl (mWc rfl (mWc rfl mW0))) (b36 _ _ _ _ _ (rg_w (c := 0) (d := 63) (show rg 0 63 _ from (rg_or (k := 6) (show rg 0 63 _ from (rg_or (k := 6) (show rg 0 32 _ from (rg_andR (rg_c (a := 32) (b := 32) (by decide +kernel)) (by decide +kernel))) (show rg 0 24 _ from (rg_andR (rg_c (a := 24) (b := 24) (by decide +kernel)) (by decide +kernel))) (by decide +kernel))) (show rg 0 7 _ from (rg_andR (rg_c (a := 7) (b := 7) (by decide +kernel)) (by decide +kernel))) (by decide +kernel))) (by decide +kernel)) (rg_w (c := 28) (d := 30) (rg_c (a := 28) (b := 28) (by decide +kernel)) (by decide +kernel)) hI)
def SPX1_branch (S : mSp) : Prop := ∀ (n e : Int) (f0 f : mFn) (g : mGn) (K : mKr) (x1 : Int32) (x2 : Int32), rg 0 1 x2 → cI n e f0 f g → (∀ (y : Int32) (f' : mFn) (g' : mGn), rg 1 2 y → cI n e f0 f' g' → K (some (.inl y)) f' g') → S [.inr 2, .inl x1, .inl x2] f g K
set_option maxRecDepth 100000 in
set_option maxHeartbeats 4000000 in
theorem sfX1_branch : SPX1_branch spX1_branch := by
  intro n e f0 f g K x1 x2 hx2 hI hK
  refine ⟨rfl, fun X hX => ?_⟩
  have b52 : ∀ (s1 : Int32) (s2 : Int32) (f : mFn) (g : mGn), rg (-64) 63 s2 → cI n e f0 f g → X 52 [] [.inl s2, .inl s1, .inr 2] f g := by
    intro s1 s2 f g hs2 hI
    refine hX.1 5 _ rfl _ _ _ _ ?_
    exact And.intro mRt_i (hK _ _ _ (rg_w (c := 1) (d := 2) (rg_c (a := 2) (b := 2) (by decide +kernel)) (by decide +kernel)) (cP0 hI (by decide +kernel)))
  have b13 : ∀ (a1 : Int32) (a2 : Int32) (s0 : Int32) (f : mFn) (g : mGn), rg 0 1 a2 → rg 0 1 s0 → cI n e f0 f g → X 13 [(0, .inr 2), (1, .inl a1), (2, .inl a2)] [.inl s0] f g := by
    intro a1 a2 s0 f g ha2 hs0 hI
    refine hX.1 2 _ rfl _ _ _ _ ?_
    refine And.intro (fun c6 => ?_) (fun c6 => ?_)
    · -- 21
      refine hX.1 3 _ rfl _ _ _ _ ?_
      refine And.intro (fun c7 => ?_) (fun c7 => ?_)
      · -- 46
        refine hX.1 4 _ rfl _ _ _ _ ?_
        exact hX.2 _ _ [] _ _ _ mW0 (b52 _ _ _ _ (rg_w (c := (-64)) (d := 63) (show rg (-64) (-1) _ from (rg_sub (show rg 64 127 _ from (rg_ge (show rg 0 127 _ from (rg_andR (rg_c (a := 127) (b := 127) (by decide +kernel)) (by decide +kernel))) (rg_c (a := 64) (b := 64) (by decide +kernel)) c7 (by decide +kernel))) (rg_c (a := 128) (b := 128) (by decide +kernel)) (by decide +kernel))) (by decide +kernel)) hI)
      · -- on
        exact hX.2 _ _ [] _ _ _ mW0 (b52 _ _ _ _ (rg_w (c := (-64)) (d := 63) (show rg 0 63 _ from (rg_lt (show rg 0 127 _ from (rg_andR (rg_c (a := 127) (b := 127) (by decide +kernel)) (by decide +kernel))) (rg_c (a := 64) (b := 64) (by decide +kernel)) (rg_nle c7) (by decide +kernel))) (by decide +kernel)) hI)
    · -- on
      exact And.intro mRt_i (hK _ _ _ (rg_w (c := 1) (d := 2) (rg_c (a := 1) (b := 1) (by decide +kernel)) (by decide +kernel)) hI)
  refine hX.1 0 _ rfl _ _ _ _ ?_
  refine And.intro (fun c8 => ?_) (fun c8 => ?_)
  · -- 12
    refine hX.1 1 _ rfl _ _ _ _ ?_
    exact hX.2 _ _ [(0, .inr 2), (1, .inl _), (2, .inl _)] _ _ _ (mWc rfl (mWc rfl (mWc rfl mW0))) (b13 _ _ _ _ _ (rg_w (c := 0) (d := 1) hx2 (by decide +kernel)) (rg_w (c := 0) (d := 1) (rg_c (a := 0) (b := 0) (by decide +kernel)) (by decide +kernel)) hI)
  · -- on
    exact hX.2 _ _ [(0, .inr 2), (1, .inl _), (2, .inl _)] _ _ _ (mWc rfl (mWc rfl (mWc rfl mW0))) (b13 _ _ _ _ _ (rg_w (c := 0) (d := 1) hx2 (by decide +kernel)) (rg_w (c := 0) (d := 1) (rg_c (a := 1) (b := 1) (by decide +kernel)) (by decide +kernel)) hI)
def SPX3_seen (S : mSp) : Prop := ∀ (n e : Int) (f0 f : mFn) (g : mGn) (K : mKr) (x1 : Int32), cI n e f0 f g → (∀ (y : Int32), K (some (.inl y)) f g) → S [.inr 3, .inl x1] f g K
set_option maxRecDepth 100000 in
set_option maxHeartbeats 4000000 in
theorem sfX3_seen : SPX3_seen spX3_seen := by
  intro n e f0 f g K x1  hI hK
  refine ⟨rfl, fun X hX => ?_⟩
  have b37 : ∀ (s0 : Int32), X 37 [] [.inl s0] f g := by
    intro s0
    refine hX.1 2 _ rfl _ _ _ _ ?_
    exact And.intro mRt_i (hK _ )
  have b31 : ∀ (a2 : Int32), rg 0 2047 a2 → X 31 [(0, .inr 3), (2, .inl a2)] [] f g := by
    intro a2 ha2
    refine hX.1 1 _ rfl _ _ _ _ ?_
    refine And.intro (rg_in ha2 (by decide +kernel)) ?_
    exact hX.2 _ _ [] _ _ _ mW0 (b37 _ )
  refine hX.1 0 _ rfl _ _ _ _ ?_
  refine And.intro (fun c3 => ?_) (fun c3 => ?_)
  · -- 31
    exact hX.2 _ _ [(0, .inr 3), (2, .inl _)] _ _ _ (mWc rfl (mWc rfl mW0)) (b31 _ (rg_w (c := 0) (d := 2047) (show rg 1536 2047 _ from (rg_ge (show rg 0 2047 _ from (rg_andR (rg_c (a := 2047) (b := 2047) (by decide +kernel)) (by decide +kernel))) (rg_c (a := 1536) (b := 1536) (by decide +kernel)) c3 (by decide +kernel))) (by decide +kernel)))
  · -- on
    refine And.intro (rg_in (rg_c (a := 87) (b := 87) (by decide +kernel)) (by decide +kernel)) ?_
    refine And.intro (fun c4 => ?_) (fun c4 => ?_)
    · -- 31
      exact hX.2 _ _ [(0, .inr 3), (2, .inl _)] _ _ _ (mWc rfl (mWc rfl mW0)) (b31 _ (rg_w (c := 0) (d := 2047) (show rg 0 1535 _ from (rg_lt (show rg 0 2047 _ from (rg_andR (rg_c (a := 2047) (b := 2047) (by decide +kernel)) (by decide +kernel))) (rg_c (a := 1536) (b := 1536) (by decide +kernel)) (rg_nle c3) (by decide +kernel))) (by decide +kernel)))
    · -- on
      exact hX.2 _ _ [] _ _ _ mW0 (b37 _ )
def SPX1_nextWord (S : mSp) : Prop := ∀ (n e : Int) (f0 f : mFn) (g : mGn) (K : mKr), cI n e f0 f g → (∀ (y : Int32) (f' : mFn) (g' : mGn), cI n e f0 f' g' → K (some (.inl y)) f' g') → S [.inr 2] f g K
set_option maxRecDepth 100000 in
set_option maxHeartbeats 4000000 in
theorem sfX1_nextWord : SPX1_nextWord spX1_nextWord := by
  intro n e f0 f g K   hI hK
  refine ⟨rfl, fun X hX => ?_⟩
  obtain ⟨S_X3_seen, k_X3_seen, hX⟩ : ∃ S_X3_seen, SPX3_seen S_X3_seen ∧ mR shC fdX1_nextWord [(126, 0, 1, 6, S_X3_seen)] bsX1_nextWord (fun r f g => mRt (some .int) r ∧ K r f g) X := ⟨spX3_seen, sfX3_seen, hX⟩
  refine hX.1 0 _ rfl _ _ _ _ ?_
  refine k_X3_seen n e f0 _ _ _ _  hI (fun y5 => ?_)
  exact And.intro mRt_i (hK _ _ _ (cP0 hI (by decide +kernel)))
def SPX1_skipIf (S : mSp) : Prop := ∀ (n e : Int) (f0 f : mFn) (g : mGn) (K : mKr) (x1 : Int32), rg 0 1 x1 → cI n e f0 f g → (∀ (y : Int32) (f' : mFn) (g' : mGn), rg 1 3 y → cI n e f0 f' g' → K (some (.inl y)) f' g') → S [.inr 2, .inl x1] f g K
set_option maxRecDepth 100000 in
set_option maxHeartbeats 4000000 in
theorem sfX1_skipIf : SPX1_skipIf spX1_skipIf := by
  intro n e f0 f g K x1 hx1 hI hK
  refine ⟨rfl, fun X hX => ?_⟩
  obtain ⟨S_X1_nextWord, k_X1_nextWord, hX⟩ : ∃ S_X1_nextWord, SPX1_nextWord S_X1_nextWord ∧ mR shC fdX1_skipIf [(50, 0, 0, 4, S_X1_nextWord)] bsX1_skipIf (fun r f g => mRt (some .int) r ∧ K r f g) X := ⟨spX1_nextWord, sfX1_nextWord, hX⟩
  have b34 : ∀ (s0 : Int32) (f : mFn) (g : mGn), rg 0 1 s0 → cI n e f0 f g → X 34 [(0, .inr 2)] [.inl s0] f g := by
    intro s0 f g hs0 hI
    refine hX.1 4 _ rfl _ _ _ _ ?_
    refine And.intro (fun c11 => ?_) (fun c11 => ?_)
    · -- 41
      refine hX.1 5 _ rfl _ _ _ _ ?_
      refine k_X1_nextWord n e f0 _ _ _  hI (fun y12 f13 gf13 hI14 => ?_)
      exact And.intro mRt_i (hK _ _ _ (rg_w (c := 1) (d := 3) (rg_c (a := 3) (b := 3) (by decide +kernel)) (by decide +kernel)) hI14)
    · -- on
      exact And.intro mRt_i (hK _ _ _ (rg_w (c := 1) (d := 3) (rg_c (a := 2) (b := 2) (by decide +kernel)) (by decide +kernel)) hI)
  have b29 : ∀ (f : mFn) (g : mGn), cI n e f0 f g → X 29 [(0, .inr 2)] [] f g := by
    intro f g  hI
    refine hX.1 2 _ rfl _ _ _ _ ?_
    exact hX.2 _ _ [(0, .inr 2)] _ _ _ (mWc rfl mW0) (b34 _ _ _ (rg_w (c := 0) (d := 1) (rg_c (a := 1) (b := 1) (by decide +kernel)) (by decide +kernel)) hI)
  refine hX.1 0 _ rfl _ _ _ _ ?_
  refine And.intro (fun c15 => ?_) (fun c15 => ?_)
  · -- 6
    refine hX.1 1 _ rfl _ _ _ _ ?_
    refine k_X1_nextWord n e f0 _ _ _  hI (fun y16 f17 gf17 hI18 => ?_)
    refine And.intro (fun c19 => ?_) (fun c19 => ?_)
    · -- 29
      exact hX.2 _ _ [(0, .inr 2)] _ _ _ (mWc rfl mW0) (b29  _ _  hI18)
    · -- on
      refine And.intro (fun c20 => ?_) (fun c20 => ?_)
      · -- 33
        refine hX.1 3 _ rfl _ _ _ _ ?_
        exact hX.2 _ _ [(0, .inr 2)] _ _ _ (mWc rfl mW0) (b34 _ _ _ (rg_w (c := 0) (d := 1) (rg_c (a := 0) (b := 0) (by decide +kernel)) (by decide +kernel)) hI18)
      · -- on
        exact hX.2 _ _ [(0, .inr 2)] _ _ _ (mWc rfl mW0) (b29  _ _  hI18)
  · -- on
    exact And.intro mRt_i (hK _ _ _ (rg_w (c := 1) (d := 3) (rg_c (a := 1) (b := 1) (by decide +kernel)) (by decide +kernel)) hI)
def SPX1_byBit (S : mSp) : Prop := ∀ (n e : Int) (f0 f : mFn) (g : mGn) (K : mKr) (x1 : Int32), cI n e f0 f g → (∀ (y : Int32) (f' : mFn) (g' : mGn), rg 1 3 y → cI n e f0 f' g' → K (some (.inl y)) f' g') → S [.inr 2, .inl x1] f g K
set_option maxRecDepth 100000 in
set_option maxHeartbeats 4000000 in
theorem sfX1_byBit : SPX1_byBit spX1_byBit := by
  intro n e f0 f g K x1  hI hK
  refine ⟨rfl, fun X hX => ?_⟩
  obtain ⟨S_X1_branch, k_X1_branch, S_X1_first, k_X1_first, S_X1_skipIf, k_X1_skipIf, hX⟩ : ∃ S_X1_branch, SPX1_branch S_X1_branch ∧ ∃ S_X1_first, SPX1_first S_X1_first ∧ ∃ S_X1_skipIf, SPX1_skipIf S_X1_skipIf ∧ mR shC fdX1_byBit [(231, 0, 2, 4, S_X1_branch), (113, 1, 1, 0, S_X1_first), (166, 0, 1, 4, S_X1_skipIf)] bsX1_byBit (fun r f g => mRt (some .int) r ∧ K r f g) X := ⟨spX1_branch, sfX1_branch, spX1_first, sfX1_first, spX1_skipIf, sfX1_skipIf, hX⟩
  have b34 : ∀ (s1 : Int32) (s2 : Int32) (f : mFn) (g : mGn), rg 0 1 s2 → cI n e f0 f g → X 34 [] [.inl s2, .inl s1, .inr 2] f g := by
    intro s1 s2 f g hs2 hI
    refine hX.1 2 _ rfl _ _ _ _ ?_
    refine k_X1_branch n e f0 _ _ _ _ _ (rg_w (c := 0) (d := 1) hs2 (by decide +kernel)) hI (fun y25 f26 gf26 hy25 hI27 => ?_)
    exact And.intro mRt_i (hK _ _ _ (rg_w (c := 1) (d := 3) hy25 (by decide +kernel)) hI27)
  have b122 : ∀ (a2 : Int32) (a3 : Int32) (s0 : Int32) (f : mFn) (g : mGn), rg 0 7 a2 → rg 0 31 a3 → rg 0 1 s0 → cI n e f0 f g → X 122 [(0, .inr 2), (2, .inl a2), (3, .inl a3)] [.inl s0] f g := by
    intro a2 a3 s0 f g ha2 ha3 hs0 hI
    refine hX.1 9 _ rfl _ _ _ _ ?_
    refine And.intro (rg_in ha3 (by decide +kernel)) ?_
    refine And.intro (rg_in ha3 (by decide +kernel)) ?_
    exact And.intro mRt_i (hK _ _ _ (rg_w (c := 1) (d := 3) (rg_c (a := 1) (b := 1) (by decide +kernel)) (by decide +kernel)) (gI_a0 hI (by decide +kernel)))
  have b176 : ∀ (s1 : Int32) (s2 : Int32) (s3 : Int32) (f : mFn) (g : mGn), rg 95 95 s1 → rg 0 64 s3 → cI n e f0 f g → X 176 [] [.inl s3, .inl s2, .inl s1, .inr 9] f g := by
    intro s1 s2 s3 f g hs1 hs3 hI
    refine hX.1 12 _ rfl _ _ _ _ ?_
    refine And.intro (rg_in hs1 (by decide +kernel)) ?_
    exact And.intro mRt_i (hK _ _ _ (rg_w (c := 1) (d := 3) (rg_c (a := 1) (b := 1) (by decide +kernel)) (by decide +kernel)) (gI_a0 hI (by decide +kernel)))
  have b191 : ∀ (s1 : Int32) (f : mFn) (g : mGn), rg 0 1 s1 → cI n e f0 f g → X 191 [] [.inl s1, .inr 2] f g := by
    intro s1 f g hs1 hI
    refine hX.1 15 _ rfl _ _ _ _ ?_
    refine k_X1_skipIf n e f0 _ _ _ _ (rg_w (c := 0) (d := 1) hs1 (by decide +kernel)) hI (fun y30 f31 gf31 hy30 hI32 => ?_)
    exact And.intro mRt_i (hK _ _ _ (rg_w (c := 1) (d := 3) hy30 (by decide +kernel)) hI32)
  have b70 : ∀ (a1 : Int32) (a2 : Int32) (a3 : Int32) (s0 : Int32) (f : mFn) (g : mGn), rg 0 7 a2 → rg 0 31 a3 → rg 0 1 s0 → cI n e f0 f g → X 70 [(0, .inr 2), (1, .inl a1), (2, .inl a2), (3, .inl a3)] [.inl s0] f g := by
    intro a1 a2 a3 s0 f g ha2 ha3 hs0 hI
    refine hX.1 6 _ rfl _ _ _ _ ?_
    refine And.intro (fun c33 => ?_) (fun c33 => ?_)
    · -- 104
      refine hX.1 7 _ rfl _ _ _ _ ?_
      refine And.intro (rg_in (rg_c (a := 95) (b := 95) (by decide +kernel)) (by decide +kernel)) ?_
      refine And.intro (fun c34 => ?_) (fun c34 => ?_)
      · -- 121
        refine hX.1 8 _ rfl _ _ _ _ ?_
        exact hX.2 _ _ [(0, .inr 2), (2, .inl _), (3, .inl _)] _ _ _ (mWc rfl (mWc rfl (mWc rfl mW0))) (b122 _ _ _ _ _ (rg_w (c := 0) (d := 7) ha2 (by decide +kernel)) (rg_w (c := 0) (d := 31) ha3 (by decide +kernel)) (rg_w (c := 0) (d := 1) (rg_c (a := 0) (b := 0) (by decide +kernel)) (by decide +kernel)) hI)
      · -- on
        exact hX.2 _ _ [(0, .inr 2), (2, .inl _), (3, .inl _)] _ _ _ (mWc rfl (mWc rfl (mWc rfl mW0))) (b122 _ _ _ _ _ (rg_w (c := 0) (d := 7) ha2 (by decide +kernel)) (rg_w (c := 0) (d := 31) ha3 (by decide +kernel)) (rg_w (c := 0) (d := 1) (rg_c (a := 1) (b := 1) (by decide +kernel)) (by decide +kernel)) hI)
    · -- on
      refine And.intro (fun c35 => ?_) (fun c35 => ?_)
      · -- 149
        refine hX.1 10 _ rfl _ _ _ _ ?_
        refine And.intro (rg_in (rg_c (a := 95) (b := 95) (by decide +kernel)) (by decide +kernel)) ?_
        refine And.intro (fun c36 => ?_) (fun c36 => ?_)
        · -- 175
          refine hX.1 11 _ rfl _ _ _ _ ?_
          exact hX.2 _ _ [] _ _ _ mW0 (b176 _ _ _ _ _ (rg_w (c := 95) (d := 95) (rg_c (a := 95) (b := 95) (by decide +kernel)) (by decide +kernel)) (rg_w (c := 0) (d := 64) (rg_c (a := 0) (b := 0) (by decide +kernel)) (by decide +kernel)) hI)
        · -- on
          exact hX.2 _ _ [] _ _ _ mW0 (b176 _ _ _ _ _ (rg_w (c := 95) (d := 95) (rg_c (a := 95) (b := 95) (by decide +kernel)) (by decide +kernel)) (rg_w (c := 0) (d := 64) (rg_c (a := 64) (b := 64) (by decide +kernel)) (by decide +kernel)) hI)
      · -- on
        refine And.intro (fun c37 => ?_) (fun c37 => ?_)
        · -- 180
          refine hX.1 13 _ rfl _ _ _ _ ?_
          refine And.intro (fun c38 => ?_) (fun c38 => ?_)
          · -- 190
            refine hX.1 14 _ rfl _ _ _ _ ?_
            exact hX.2 _ _ [] _ _ _ mW0 (b191 _ _ _ (rg_w (c := 0) (d := 1) (rg_c (a := 0) (b := 0) (by decide +kernel)) (by decide +kernel)) hI)
          · -- on
            exact hX.2 _ _ [] _ _ _ mW0 (b191 _ _ _ (rg_w (c := 0) (d := 1) (rg_c (a := 1) (b := 1) (by decide +kernel)) (by decide +kernel)) hI)
        · -- on
          refine hX.1 16 _ rfl _ _ _ _ ?_
          refine k_X1_skipIf n e f0 _ _ _ _ (rg_w (c := 0) (d := 1) hs0 (by decide +kernel)) hI (fun y39 f40 gf40 hy39 hI41 => ?_)
          exact And.intro mRt_i (hK _ _ _ (rg_w (c := 1) (d := 3) hy39 (by decide +kernel)) hI41)
  refine hX.1 0 _ rfl _ _ _ _ ?_
  refine And.intro (fun c42 => ?_) (fun c42 => ?_)
  · -- 38
    refine hX.1 3 _ rfl _ _ _ _ ?_
    refine And.intro (fun c43 => ?_) (fun c43 => ?_)
    · -- 47
      refine hX.1 4 _ rfl _ _ _ _ ?_
      refine k_X1_first n e f0 _ _ _ _  hI (fun y44 hy44 => ?_)
      refine And.intro (rg_in hy44 (by decide +kernel)) ?_
      refine And.intro (fun c47 => ?_) (fun c47 => ?_)
      · -- 69
        refine hX.1 5 _ rfl _ _ _ _ ?_
        exact hX.2 _ _ [(0, .inr 2), (1, .inl _), (2, .inl _), (3, .inl _)] _ _ _ (mWc rfl (mWc rfl (mWc rfl (mWc rfl mW0)))) (b70 _ _ _ _ _ _ (rg_w (c := 0) (d := 7) (show rg 0 7 _ from (rg_andR (rg_c (a := 7) (b := 7) (by decide +kernel)) (by decide +kernel))) (by decide +kernel)) (rg_w (c := 0) (d := 31) hy44 (by decide +kernel)) (rg_w (c := 0) (d := 1) (rg_c (a := 0) (b := 0) (by decide +kernel)) (by decide +kernel)) hI)
      · -- on
        exact hX.2 _ _ [(0, .inr 2), (1, .inl _), (2, .inl _), (3, .inl _)] _ _ _ (mWc rfl (mWc rfl (mWc rfl (mWc rfl mW0)))) (b70 _ _ _ _ _ _ (rg_w (c := 0) (d := 7) (show rg 0 7 _ from (rg_andR (rg_c (a := 7) (b := 7) (by decide +kernel)) (by decide +kernel))) (by decide +kernel)) (rg_w (c := 0) (d := 31) hy44 (by decide +kernel)) (rg_w (c := 0) (d := 1) (rg_c (a := 1) (b := 1) (by decide +kernel)) (by decide +kernel)) hI)
    · -- on
      exact And.intro mRt_i (hK _ _ _ (rg_w (c := 1) (d := 3) (rg_c (a := 1) (b := 1) (by decide +kernel)) (by decide +kernel)) hI)
  · -- on
    refine And.intro (rg_in (rg_c (a := 95) (b := 95) (by decide +kernel)) (by decide +kernel)) ?_
    refine And.intro (fun c48 => ?_) (fun c48 => ?_)
    · -- 33
      refine hX.1 1 _ rfl _ _ _ _ ?_
      exact hX.2 _ _ [] _ _ _ mW0 (b34 _ _ _ _ (rg_w (c := 0) (d := 1) (rg_c (a := 0) (b := 0) (by decide +kernel)) (by decide +kernel)) hI)
    · -- on
      exact hX.2 _ _ [] _ _ _ mW0 (b34 _ _ _ _ (rg_w (c := 0) (d := 1) (rg_c (a := 1) (b := 1) (by decide +kernel)) (by decide +kernel)) hI)
def SPX1_statusBit (S : mSp) : Prop := ∀ (n e : Int) (f0 f : mFn) (g : mGn) (K : mKr) (x1 : Int32), cI n e f0 f g → (∀ (y : Int32) (f' : mFn) (g' : mGn), rg 1 1 y → cI n e f0 f' g' → K (some (.inl y)) f' g') → S [.inr 2, .inl x1] f g K
set_option maxRecDepth 100000 in
set_option maxHeartbeats 4000000 in
theorem sfX1_statusBit : SPX1_statusBit spX1_statusBit := by
  intro n e f0 f g K x1  hI hK
  refine ⟨rfl, fun X hX => ?_⟩
  have b44 : ∀ (f : mFn) (g : mGn), cI n e f0 f g → X 44 [] [] f g := by
    intro f g  hI
    refine hX.1 2 _ rfl _ _ _ _ ?_
    exact And.intro mRt_i (hK _ _ _ (rg_w (c := 1) (d := 1) (rg_c (a := 1) (b := 1) (by decide +kernel)) (by decide +kernel)) hI)
  refine hX.1 0 _ rfl _ _ _ _ ?_
  refine And.intro (fun c4 => ?_) (fun c4 => ?_)
  · -- 31
    refine hX.1 1 _ rfl _ _ _ _ ?_
    refine And.intro (rg_in (rg_c (a := 95) (b := 95) (by decide +kernel)) (by decide +kernel)) ?_
    refine And.intro (rg_in (rg_c (a := 95) (b := 95) (by decide +kernel)) (by decide +kernel)) ?_
    exact hX.2 _ _ [] _ _ _ mW0 (b44  _ _  (gI_a0 hI (by decide +kernel)))
  · -- on
    refine And.intro (rg_in (rg_c (a := 95) (b := 95) (by decide +kernel)) (by decide +kernel)) ?_
    refine And.intro (rg_in (rg_c (a := 95) (b := 95) (by decide +kernel)) (by decide +kernel)) ?_
    exact hX.2 _ _ [] _ _ _ mW0 (b44  _ _  (gI_a0 hI (by decide +kernel)))
def SPX5_stackPointer (S : mSp) : Prop := ∀ (n e : Int) (f0 f : mFn) (g : mGn) (K : mKr), cI n e f0 f g → (∀ (y : Int32), K (some (.inl y)) f g) → S [.inr 1] f g K
set_option maxRecDepth 100000 in
set_option maxHeartbeats 4000000 in
theorem sfX5_stackPointer : SPX5_stackPointer spX5_stackPointer := by
  intro n e f0 f g K   hI hK
  refine ⟨rfl, fun X hX => ?_⟩
  refine hX.1 0 _ rfl _ _ _ _ ?_
  refine And.intro (rg_in (rg_c (a := 94) (b := 94) (by decide +kernel)) (by decide +kernel)) ?_
  refine And.intro (rg_in (rg_c (a := 93) (b := 93) (by decide +kernel)) (by decide +kernel)) ?_
  exact And.intro mRt_i (hK _ )
def SPX5_moveStack (S : mSp) : Prop := ∀ (n e : Int) (f0 f : mFn) (g : mGn) (K : mKr) (x1 : Int32), cI n e f0 f g → (∀ (f' : mFn) (g' : mGn), cI n e f0 f' g' → K none f' g') → S [.inr 1, .inl x1] f g K
set_option maxRecDepth 100000 in
set_option maxHeartbeats 4000000 in
theorem sfX5_moveStack : SPX5_moveStack spX5_moveStack := by
  intro n e f0 f g K x1  hI hK
  refine ⟨rfl, fun X hX => ?_⟩
  refine hX.1 0 _ rfl _ _ _ _ ?_
  refine And.intro (rg_in (rg_c (a := 94) (b := 94) (by decide +kernel)) (by decide +kernel)) ?_
  refine And.intro (rg_in (rg_c (a := 93) (b := 93) (by decide +kernel)) (by decide +kernel)) ?_
  exact And.intro mRt_v (hK _ _ (gI_a0 (gI_a0 hI (by decide +kernel)) (by decide +kernel)))
def SPX5_pop (S : mSp) : Prop := ∀ (n e : Int) (f0 f : mFn) (g : mGn) (K : mKr), cI n e f0 f g → (∀ (y : Int32) (f' : mFn) (g' : mGn), cI n e f0 f' g' → K (some (.inl y)) f' g') → S [.inr 1] f g K
set_option maxRecDepth 100000 in
set_option maxHeartbeats 4000000 in
theorem sfX5_pop : SPX5_pop spX5_pop := by
  intro n e f0 f g K   hI hK
  refine ⟨rfl, fun X hX => ?_⟩
  obtain ⟨S_X5_stackPointer, k_X5_stackPointer, S_X5_moveStack, k_X5_moveStack, S_X5_load, k_X5_load, hX⟩ : ∃ S_X5_stackPointer, SPX5_stackPointer S_X5_stackPointer ∧ ∃ S_X5_moveStack, SPX5_moveStack S_X5_moveStack ∧ ∃ S_X5_load, SPX5_load S_X5_load ∧ mR shC fdX5_pop [(117, 0, 0, 8, S_X5_stackPointer), (123, 0, 1, 8, S_X5_moveStack), (126, 0, 1, 8, S_X5_load)] bsX5_pop (fun r f g => mRt (some .int) r ∧ K r f g) X := ⟨spX5_stackPointer, sfX5_stackPointer, spX5_moveStack, sfX5_moveStack, spX5_load, sfX5_load, hX⟩
  refine hX.1 0 _ rfl _ _ _ _ ?_
  refine k_X5_stackPointer n e f0 _ _ _   hI (fun y13 => ?_)
  refine k_X5_moveStack n e f0 _ _ _ _  hI (fun f17 gf17 hI18 => ?_)
  refine k_X5_stackPointer n e f0 _ _ _   hI18 (fun y19 => ?_)
  refine k_X5_load n e f0 _ _ _ _  hI18 (fun y22 f23 gf23 hI24 => ?_)
  exact And.intro mRt_i (hK _ _ _ hI24)
def SPX1_popPc (S : mSp) : Prop := ∀ (n e : Int) (f0 f : mFn) (g : mGn) (K : mKr), cI n e f0 f g → (∀ (f' : mFn) (g' : mGn), cI n e f0 f' g' → K none f' g') → S [.inr 2] f g K
set_option maxRecDepth 100000 in
set_option maxHeartbeats 4000000 in
theorem sfX1_popPc : SPX1_popPc spX1_popPc := by
  intro n e f0 f g K   hI hK
  refine ⟨rfl, fun X hX => ?_⟩
  obtain ⟨S_X5_pop, k_X5_pop, hX⟩ : ∃ S_X5_pop, SPX5_pop S_X5_pop ∧ mR shC fdX1_popPc [(135, 0, 0, 8, S_X5_pop)] bsX1_popPc (fun r f g => mRt none r ∧ K r f g) X := ⟨spX5_pop, sfX5_pop, hX⟩
  refine hX.1 0 _ rfl _ _ _ _ ?_
  refine k_X5_pop n e f0 _ _ _  hI (fun y8 f9 gf9 hI10 => ?_)
  refine k_X5_pop n e f0 _ _ _  hI10 (fun y11 f12 gf12 hI13 => ?_)
  exact And.intro mRt_v (hK _ _ (cP0 hI13 (by decide +kernel)))
def SPX3_command (S : mSp) : Prop := ∀ (n e : Int) (f0 f : mFn) (g : mGn) (K : mKr), cI n e f0 f g → (∀ (y : Int32), rg 0 15 y → K (some (.inl y)) f g) → S [.inr 3] f g K
set_option maxRecDepth 100000 in
set_option maxHeartbeats 4000000 in
theorem sfX3_command : SPX3_command spX3_command := by
  intro n e f0 f g K   hI hK
  refine ⟨rfl, fun X hX => ?_⟩
  refine hX.1 0 _ rfl _ _ _ _ ?_
  refine And.intro (rg_in (rg_c (a := 87) (b := 87) (by decide +kernel)) (by decide +kernel)) ?_
  exact And.intro mRt_i (hK _ (rg_w (c := 0) (d := 15) (show rg 0 15 _ from (rg_andR (rg_c (a := 15) (b := 15) (by decide +kernel)) (by decide +kernel))) (by decide +kernel)) )
def SPX3_endCommand (S : mSp) : Prop := ∀ (n e : Int) (f0 f : mFn) (g : mGn) (K : mKr), cI n e f0 f g → (∀ (f' : mFn) (g' : mGn), cI n e f0 f' g' → K none f' g') → S [.inr 3] f g K
set_option maxRecDepth 100000 in
set_option maxHeartbeats 4000000 in
theorem sfX3_endCommand : SPX3_endCommand spX3_endCommand := by
  intro n e f0 f g K   hI hK
  refine ⟨rfl, fun X hX => ?_⟩
  refine hX.1 0 _ rfl _ _ _ _ ?_
  refine And.intro (rg_in (rg_c (a := 87) (b := 87) (by decide +kernel)) (by decide +kernel)) ?_
  refine And.intro (rg_in (rg_c (a := 87) (b := 87) (by decide +kernel)) (by decide +kernel)) ?_
  exact And.intro mRt_v (hK _ _ (gI_a0 hI (by decide +kernel)))
def SPX3_isHidden (S : mSp) : Prop := ∀ (n e : Int) (f0 f : mFn) (g : mGn) (K : mKr) (x1 : Int32) (x2 : Int32), rg 0 2047 x1 → cI n e f0 f g → (∀ (y : Int32), rg 0 1 y → K (some (.inl y)) f g) → S [.inr 3, .inl x1, .inl x2] f g K
set_option maxRecDepth 100000 in
set_option maxHeartbeats 4000000 in
theorem sfX3_isHidden : SPX3_isHidden spX3_isHidden := by
  intro n e f0 f g K x1 x2 hx1 hI hK
  refine ⟨rfl, fun X hX => ?_⟩
  have b29 : ∀ (s0 : Int32), rg 0 1 s0 → X 29 [] [.inl s0] f g := by
    intro s0 hs0
    refine hX.1 2 _ rfl _ _ _ _ ?_
    exact And.intro (mRt_z (rg_01 hs0 (by decide +kernel))) (hK _ (rg_w (c := 0) (d := 1) hs0 (by decide +kernel)) )
  have b28 : X 28 [] [] f g := by
    refine hX.1 1 _ rfl _ _ _ _ ?_
    exact hX.2 _ _ [] _ _ _ mW0 (b29 _ (rg_w (c := 0) (d := 1) (rg_c (a := 0) (b := 0) (by decide +kernel)) (by decide +kernel)))
  have b51 : ∀ (s0 : Int32), rg 0 1 s0 → X 51 [] [.inl s0] f g := by
    intro s0 hs0
    refine hX.1 5 _ rfl _ _ _ _ ?_
    exact And.intro (mRt_z (rg_01 hs0 (by decide +kernel))) (hK _ (rg_w (c := 0) (d := 1) hs0 (by decide +kernel)) )
  have b50 : X 50 [] [] f g := by
    refine hX.1 4 _ rfl _ _ _ _ ?_
    exact hX.2 _ _ [] _ _ _ mW0 (b51 _ (rg_w (c := 0) (d := 1) (rg_c (a := 0) (b := 0) (by decide +kernel)) (by decide +kernel)))
  refine hX.1 0 _ rfl _ _ _ _ ?_
  refine And.intro (fun c6 => ?_) (fun c6 => ?_)
  · -- 30
    refine hX.1 3 _ rfl _ _ _ _ ?_
    refine And.intro (fun c7 => ?_) (fun c7 => ?_)
    · -- 50
      exact hX.2 _ _ [] _ _ _ mW0 (b50  )
    · -- on
      refine And.intro (fun c8 => ?_) (fun c8 => ?_)
      · -- 50
        exact hX.2 _ _ [] _ _ _ mW0 (b50  )
      · -- on
        exact hX.2 _ _ [] _ _ _ mW0 (b51 _ (rg_w (c := 0) (d := 1) (rg_c (a := 1) (b := 1) (by decide +kernel)) (by decide +kernel)))
  · -- on
    refine And.intro (fun c9 => ?_) (fun c9 => ?_)
    · -- 28
      exact hX.2 _ _ [] _ _ _ mW0 (b28  )
    · -- on
      refine And.intro (fun c10 => ?_) (fun c10 => ?_)
      · -- 28
        exact hX.2 _ _ [] _ _ _ mW0 (b28  )
      · -- on
        exact hX.2 _ _ [] _ _ _ mW0 (b29 _ (rg_w (c := 0) (d := 1) (rg_c (a := 1) (b := 1) (by decide +kernel)) (by decide +kernel)))
def SPX3_seenByte (S : mSp) : Prop := ∀ (n e : Int) (f0 f : mFn) (g : mGn) (K : mKr) (x1 : Int32) (x2 : Int32), cI n e f0 f g → (∀ (y : Int32) (f' : mFn) (g' : mGn), cI n e f0 f' g' → K (some (.inl y)) f' g') → S [.inr 3, .inl x1, .inl x2] f g K
set_option maxRecDepth 100000 in
set_option maxHeartbeats 4000000 in
theorem sfX3_seenByte : SPX3_seenByte spX3_seenByte := by
  intro n e f0 f g K x1 x2  hI hK
  refine ⟨rfl, fun X hX => ?_⟩
  obtain ⟨S_X3_command, k_X3_command, S_X3_endCommand, k_X3_endCommand, S_X3_isHidden, k_X3_isHidden, S_X3_seen, k_X3_seen, hX⟩ : ∃ S_X3_command, SPX3_command S_X3_command ∧ ∃ S_X3_endCommand, SPX3_endCommand S_X3_endCommand ∧ ∃ S_X3_isHidden, SPX3_isHidden S_X3_isHidden ∧ ∃ S_X3_seen, SPX3_seen S_X3_seen ∧ mR shC fdX3_seenByte [(56, 0, 0, 6, S_X3_command), (53, 0, 0, 6, S_X3_endCommand), (60, 0, 2, 6, S_X3_isHidden), (64, 0, 1, 6, S_X3_seen)] bsX3_seenByte (fun r f g => mRt (some .int) r ∧ K r f g) X := ⟨spX3_command, sfX3_command, spX3_endCommand, sfX3_endCommand, spX3_isHidden, sfX3_isHidden, spX3_seen, sfX3_seen, hX⟩
  have b56 : ∀ (s0 : Int32) (f : mFn) (g : mGn), cI n e f0 f g → X 56 [] [.inl s0] f g := by
    intro s0 f g  hI
    refine hX.1 3 _ rfl _ _ _ _ ?_
    exact And.intro mRt_i (hK _ _ _ hI)
  have b104 : ∀ (s0 : Int32) (f : mFn) (g : mGn), rg (-8388608) 8388607 s0 → cI n e f0 f g → X 104 [] [.inl s0] f g := by
    intro s0 f g hs0 hI
    refine hX.1 7 _ rfl _ _ _ _ ?_
    exact And.intro mRt_i (hK _ _ _ hI)
  have b57 : ∀ (a1 : Int32) (a2 : Int32) (f : mFn) (g : mGn), cI n e f0 f g → X 57 [(0, .inr 3), (1, .inl a1), (2, .inl a2)] [] f g := by
    intro a1 a2 f g  hI
    refine hX.1 4 _ rfl _ _ _ _ ?_
    refine k_X3_isHidden n e f0 _ _ _ _ _ (rg_w (c := 0) (d := 2047) (show rg 0 2047 _ from (rg_andR (rg_c (a := 2047) (b := 2047) (by decide +kernel)) (by decide +kernel))) (by decide +kernel)) hI (fun y23 hy23 => ?_)
    refine And.intro (fun c26 => ?_) (fun c26 => ?_)
    · -- 78
      refine hX.1 5 _ rfl _ _ _ _ ?_
      refine And.intro (fun c27 => ?_) (fun c27 => ?_)
      · -- 96
        refine hX.1 6 _ rfl _ _ _ _ ?_
        refine k_X3_seen n e f0 _ _ _ _  hI (fun y28 => ?_)
        exact hX.2 _ _ [] _ _ _ mW0 (b104 _ _ _ (rg_w (c := (-8388608)) (d := 8388607) (show rg (-8388608) 8388607 _ from (rg_shrK 8 (rg_all _) (by decide +kernel) (by decide +kernel))) (by decide +kernel)) hI)
      · -- on
        refine k_X3_seen n e f0 _ _ _ _  hI (fun y31 => ?_)
        exact hX.2 _ _ [] _ _ _ mW0 (b104 _ _ _ (rg_w (c := (-8388608)) (d := 8388607) (show rg 0 255 _ from (rg_andR (rg_c (a := 255) (b := 255) (by decide +kernel)) (by decide +kernel))) (by decide +kernel)) hI)
    · -- on
      exact And.intro mRt_i (hK _ _ _ hI)
  refine hX.1 0 _ rfl _ _ _ _ ?_
  refine And.intro (fun c34 => ?_) (fun c34 => ?_)
  · -- 57
    exact hX.2 _ _ [(0, .inr 3), (1, .inl _), (2, .inl _)] _ _ _ (mWc rfl (mWc rfl (mWc rfl mW0))) (b57 _ _ _ _  hI)
  · -- on
    refine k_X3_command n e f0 _ _ _   hI (fun y35 hy35 => ?_)
    refine And.intro (fun c38 => ?_) (fun c38 => ?_)
    · -- 57
      exact hX.2 _ _ [(0, .inr 3), (1, .inl _), (2, .inl _)] _ _ _ (mWc rfl (mWc rfl (mWc rfl mW0))) (b57 _ _ _ _  hI)
    · -- on
      refine k_X3_endCommand n e f0 _ _ _  (cP0 hI (by decide +kernel)) (fun f41 gf41 hI42 => ?_)
      refine And.intro (fun c43 => ?_) (fun c43 => ?_)
      · -- 38
        refine hX.1 1 _ rfl _ _ _ _ ?_
        refine And.intro (fun c44 => ?_) (fun c44 => ?_)
        · -- 53
          refine hX.1 2 _ rfl _ _ _ _ ?_
          exact hX.2 _ _ [] _ _ _ mW0 (b56 _ _ _  hI42)
        · -- on
          exact hX.2 _ _ [] _ _ _ mW0 (b56 _ _ _  hI42)
      · -- on
        exact And.intro mRt_i (hK _ _ _ hI42)
def SPX3_hasWord (S : mSp) : Prop := ∀ (n e : Int) (f0 f : mFn) (g : mGn) (K : mKr) (x1 : Int32), rg 0 31 x1 → cI n e f0 f g → (∀ (y : Int32), rg 0 1 y → K (some (.inl y)) f g) → S [.inr 3, .inl x1] f g K
set_option maxRecDepth 100000 in
set_option maxHeartbeats 4000000 in
theorem sfX3_hasWord : SPX3_hasWord spX3_hasWord := by
  intro n e f0 f g K x1 hx1 hI hK
  refine ⟨rfl, fun X hX => ?_⟩
  have b16 : ∀ (s0 : Int32), rg 0 1 s0 → X 16 [] [.inl s0] f g := by
    intro s0 hs0
    refine hX.1 2 _ rfl _ _ _ _ ?_
    exact And.intro (mRt_z (rg_01 hs0 (by decide +kernel))) (hK _ (rg_w (c := 0) (d := 1) hs0 (by decide +kernel)) )
  refine hX.1 0 _ rfl _ _ _ _ ?_
  refine And.intro (fun c2 => ?_) (fun c2 => ?_)
  · -- 15
    refine hX.1 1 _ rfl _ _ _ _ ?_
    exact hX.2 _ _ [] _ _ _ mW0 (b16 _ (rg_w (c := 0) (d := 1) (rg_c (a := 0) (b := 0) (by decide +kernel)) (by decide +kernel)))
  · -- on
    exact hX.2 _ _ [] _ _ _ mW0 (b16 _ (rg_w (c := 0) (d := 1) (rg_c (a := 1) (b := 1) (by decide +kernel)) (by decide +kernel)))
def SPX3_writePage (S : mSp) : Prop := ∀ (n e : Int) (f0 f : mFn) (g : mGn) (K : mKr) (x1 : Int32), rg 0 2016 x1 → cI n e f0 f g → (∀ (f' : mFn) (g' : mGn), cI n e f0 f' g' → K none f' g') → S [.inr 3, .inl x1] f g K
set_option maxRecDepth 100000 in
set_option maxHeartbeats 4000000 in
theorem sfX3_writePage : SPX3_writePage spX3_writePage := by
  intro n e f0 f g K x1 hx1 hI hK
  refine ⟨rfl, fun X hX => ?_⟩
  obtain ⟨S_X3_hasWord, k_X3_hasWord, hX⟩ : ∃ S_X3_hasWord, SPX3_hasWord S_X3_hasWord ∧ mR shC fdX3_writePage [(76, 0, 1, 6, S_X3_hasWord)] bsX3_writePage (fun r f g => mRt none r ∧ K r f g) X := ⟨spX3_hasWord, sfX3_hasWord, hX⟩
  have r2 : ∀ (t : Nat), ∀ (a1 : Int32) (a2 : Int32) (f : mFn) (g : mGn), rg 0 2016 a1 → rg 0 32 a2 → cI n e f0 f g → (32 - Int32.toInt a2).toNat < t → X 2 [(0, .inr 3), (1, .inl a1), (2, .inl a2)] [] f g := by
    intro t
    induction t with
    | zero => intro a1 a2 f g ha1 ha2 hI hm; exact absurd hm (Nat.not_lt_zero _)
    | succ t ih =>
      have b33 : ∀ (a1 : Int32) (a2 : Int32) (f : mFn) (g : mGn), rg 0 2016 a1 → rg 0 31 a2 → cI n e f0 f g → (32 - Int32.toInt a2).toNat < t + 1 → X 33 [(0, .inr 3), (1, .inl a1), (2, .inl a2)] [] f g := by
        intro a1 a2 f g ha1 ha2 hI hm
        refine hX.1 2 _ rfl _ _ _ _ ?_
        exact hX.2 _ _ [(0, .inr 3), (1, .inl _), (2, .inl _)] _ _ _ (mWc rfl (mWc rfl (mWc rfl mW0))) (ih _ _ _ _ (rg_w (c := 0) (d := 2016) ha1 (by decide +kernel)) (rg_w (c := 0) (d := 32) (show rg 1 32 _ from (rg_add ha2 (rg_c (a := 1) (b := 1) (by decide +kernel)) (by decide +kernel))) (by decide +kernel)) hI (lp_m (N := 32) (rg_w (c := (-2147483648)) (d := 31) ha2 (by decide +kernel)) hm))
      intro a1 a2 f g ha1 ha2 hI hm
      refine hX.1 1 _ rfl _ _ _ _ ?_
      refine And.intro (fun c7 => ?_) (fun c7 => ?_)
      · -- 39
        refine hX.1 3 _ rfl _ _ _ _ ?_
        exact And.intro mRt_v (hK _ _ hI)
      · -- on
        refine k_X3_hasWord n e f0 _ _ _ _ (rg_w (c := 0) (d := 31) (show rg 0 31 _ from (rg_lt ha2 (rg_c (a := 32) (b := 32) (by decide +kernel)) (rg_nle c7) (by decide +kernel))) (by decide +kernel)) hI (fun y8 hy8 => ?_)
        refine And.intro (fun c11 => ?_) (fun c11 => ?_)
        · -- 33
          exact hX.2 _ _ [(0, .inr 3), (1, .inl _), (2, .inl _)] _ _ _ (mWc rfl (mWc rfl (mWc rfl mW0))) (b33 _ _ _ _ (rg_w (c := 0) (d := 2016) ha1 (by decide +kernel)) (rg_w (c := 0) (d := 31) (show rg 0 31 _ from (rg_lt ha2 (rg_c (a := 32) (b := 32) (by decide +kernel)) (rg_nle c7) (by decide +kernel))) (by decide +kernel)) hI hm)
        · -- on
          refine And.intro (rg_in (show rg 0 2047 _ from (rg_add ha1 (show rg 0 31 _ from (rg_lt ha2 (rg_c (a := 32) (b := 32) (by decide +kernel)) (rg_nle c7) (by decide +kernel))) (by decide +kernel))) (by decide +kernel)) ?_
          refine And.intro (rg_in (show rg 0 31 _ from (rg_lt ha2 (rg_c (a := 32) (b := 32) (by decide +kernel)) (rg_nle c7) (by decide +kernel))) (by decide +kernel)) ?_
          refine And.intro (rg_in (show rg 0 2047 _ from (rg_add ha1 (show rg 0 31 _ from (rg_lt ha2 (rg_c (a := 32) (b := 32) (by decide +kernel)) (rg_nle c7) (by decide +kernel))) (by decide +kernel))) (by decide +kernel)) ?_
          exact hX.2 _ _ [(0, .inr 3), (1, .inl _), (2, .inl _)] _ _ _ (mWc rfl (mWc rfl (mWc rfl mW0))) (b33 _ _ _ _ (rg_w (c := 0) (d := 2016) ha1 (by decide +kernel)) (rg_w (c := 0) (d := 31) (show rg 0 31 _ from (rg_lt ha2 (rg_c (a := 32) (b := 32) (by decide +kernel)) (rg_nle c7) (by decide +kernel))) (by decide +kernel)) (gI_a0 hI (by decide +kernel)) hm)
  have b2 : ∀ (a1 : Int32) (a2 : Int32) (f : mFn) (g : mGn), rg 0 2016 a1 → rg 0 32 a2 → cI n e f0 f g → X 2 [(0, .inr 3), (1, .inl a1), (2, .inl a2)] [] f g := by
    intro a1 a2 f g ha1 ha2 hI
    exact r2 _ _ _ _ _ ha1 ha2 hI (Nat.lt_succ_self _)
  refine hX.1 0 _ rfl _ _ _ _ ?_
  exact hX.2 _ _ [(0, .inr 3), (1, .inl _), (2, .inl _)] _ _ _ (mWc rfl (mWc rfl (mWc rfl mW0))) (b2 _ _ _ _ (rg_w (c := 0) (d := 2016) hx1 (by decide +kernel)) (rg_w (c := 0) (d := 32) (rg_c (a := 0) (b := 0) (by decide +kernel)) (by decide +kernel)) hI)
def SPX3_changePage (S : mSp) : Prop := ∀ (n e : Int) (f0 f : mFn) (g : mGn) (K : mKr) (x1 : Int32) (x2 : Int32), rg 1 2 x1 → rg 0 63 x2 → cI n e f0 f g → (∀ (y : Int32) (f' : mFn) (g' : mGn), rg 0 8000 y → cI n e f0 f' g' → K (some (.inl y)) f' g') → S [.inr 3, .inl x1, .inl x2] f g K
set_option maxRecDepth 100000 in
set_option maxHeartbeats 4000000 in
theorem sfX3_changePage : SPX3_changePage spX3_changePage := by
  intro n e f0 f g K x1 x2 hx1 hx2 hI hK
  refine ⟨rfl, fun X hX => ?_⟩
  obtain ⟨S_X3_endCommand, k_X3_endCommand, S_J7_fill_fda19, k_J7_fill_fda19, S_X3_writePage, k_X3_writePage, hX⟩ : ∃ S_X3_endCommand, SPX3_endCommand S_X3_endCommand ∧ ∃ S_J7_fill_fda19, SPJ7_fill_fda19 S_J7_fill_fda19 ∧ ∃ S_X3_writePage, SPX3_writePage S_X3_writePage ∧ mR shC fdX3_changePage [(53, 0, 0, 6, S_X3_endCommand), (80, 1, 4, 0, S_J7_fill_fda19), (83, 0, 1, 6, S_X3_writePage)] bsX3_changePage (fun r f g => mRt (some .int) r ∧ K r f g) X := ⟨spX3_endCommand, sfX3_endCommand, spJ7_fill_fda19, sfJ7_fill_fda19, spX3_writePage, sfX3_writePage, hX⟩
  have b75 : ∀ (a4 : Int32) (f : mFn) (g : mGn), rg 0 1 a4 → cI n e f0 f g → X 75 [(0, .inr 3), (4, .inl a4)] [] f g := by
    intro a4 f g ha4 hI
    refine hX.1 7 _ rfl _ _ _ _ ?_
    refine And.intro (fun c21 => ?_) (fun c21 => ?_)
    · -- 88
      refine hX.1 8 _ rfl _ _ _ _ ?_
      refine And.intro (rg_in (rg_c (a := 87) (b := 87) (by decide +kernel)) (by decide +kernel)) ?_
      refine And.intro (rg_in (rg_c (a := 87) (b := 87) (by decide +kernel)) (by decide +kernel)) ?_
      exact And.intro mRt_i (hK _ _ _ (rg_w (c := 0) (d := 8000) (rg_c (a := 0) (b := 0) (by decide +kernel)) (by decide +kernel)) (cP0 (gI_a0 hI (by decide +kernel)) (by decide +kernel)))
    · -- on
      refine k_X3_endCommand n e f0 _ _ _  hI (fun f25 gf25 hI26 => ?_)
      exact And.intro mRt_i (hK _ _ _ (rg_w (c := 0) (d := 8000) (rg_c (a := 8000) (b := 8000) (by decide +kernel)) (by decide +kernel)) hI26)
  have b33 : ∀ (a1 : Int32) (a3 : Int32) (a4 : Int32) (s0 : Int32) (s1 : Int32) (f : mFn) (g : mGn), rg 1 2 a1 → rg 0 2016 a3 → rg 0 1 a4 → rg 1 4 s1 → cI n e f0 f g → X 33 [(0, .inr 3), (1, .inl a1), (3, .inl a3), (4, .inl a4)] [.inl s1, .inl s0] f g := by
    intro a1 a3 a4 s0 s1 f g ha1 ha3 ha4 hs1 hI
    refine hX.1 4 _ rfl _ _ _ _ ?_
    refine And.intro (fun c27 => ?_) (fun c27 => ?_)
    · -- 43
      refine hX.1 5 _ rfl _ _ _ _ ?_
      refine And.intro (fun c28 => ?_) (fun c28 => ?_)
      · -- 65
        refine hX.1 6 _ rfl _ _ _ _ ?_
        refine k_X3_writePage n e f0 _ _ _ _ (rg_w (c := 0) (d := 2016) ha3 (by decide +kernel)) hI (fun f30 gf30 hI31 => ?_)
        exact hX.2 _ _ [(0, .inr 3), (4, .inl _)] _ _ _ (mWc rfl (mWc rfl mW0)) (b75 _ _ _ (rg_w (c := 0) (d := 1) ha4 (by decide +kernel)) (cP0 hI31 (by decide +kernel)))
      · -- on
        refine k_J7_fill_fda19 n e f0 _ _ _ 10 2048 _ _ _ (Or.inr ⟨rfl, rfl⟩) ha3.1 (fl_le ha3) (rg_add (lo := 0) (hi := 2048) ha3 (rg_c (a := 32) (b := 32) (by decide +kernel)) (by decide +kernel)).2 hI (fun gf34 hI35 => ?_)
        exact hX.2 _ _ [(0, .inr 3), (4, .inl _)] _ _ _ (mWc rfl (mWc rfl mW0)) (b75 _ _ _ (rg_w (c := 0) (d := 1) ha4 (by decide +kernel)) hI35)
    · -- on
      refine k_X3_endCommand n e f0 _ _ _  hI (fun f37 gf37 hI38 => ?_)
      exact And.intro mRt_i (hK _ _ _ (rg_w (c := 0) (d := 8000) (rg_c (a := 0) (b := 0) (by decide +kernel)) (by decide +kernel)) hI38)
  have b17 : ∀ (a1 : Int32) (a3 : Int32) (s0 : Int32) (f : mFn) (g : mGn), rg 1 2 a1 → rg 0 2016 a3 → rg 0 1 s0 → cI n e f0 f g → X 17 [(0, .inr 3), (1, .inl a1), (3, .inl a3)] [.inl s0] f g := by
    intro a1 a3 s0 f g ha1 ha3 hs0 hI
    refine hX.1 2 _ rfl _ _ _ _ ?_
    refine And.intro (fun c39 => ?_) (fun c39 => ?_)
    · -- 32
      refine hX.1 3 _ rfl _ _ _ _ ?_
      exact hX.2 _ _ [(0, .inr 3), (1, .inl _), (3, .inl _), (4, .inl _)] _ _ _ (mWc rfl (mWc rfl (mWc rfl (mWc rfl mW0)))) (b33 _ _ _ _ _ _ _ (rg_w (c := 1) (d := 2) ha1 (by decide +kernel)) (rg_w (c := 0) (d := 2016) ha3 (by decide +kernel)) (rg_w (c := 0) (d := 1) (show rg 0 0 _ from (rg_eq (rg_c (a := 0) (b := 0) (by decide +kernel)) c39)) (by decide +kernel)) (rg_w (c := 1) (d := 4) (rg_c (a := 1) (b := 1) (by decide +kernel)) (by decide +kernel)) hI)
    · -- on
      exact hX.2 _ _ [(0, .inr 3), (1, .inl _), (3, .inl _), (4, .inl _)] _ _ _ (mWc rfl (mWc rfl (mWc rfl (mWc rfl mW0)))) (b33 _ _ _ _ _ _ _ (rg_w (c := 1) (d := 2) ha1 (by decide +kernel)) (rg_w (c := 0) (d := 2016) ha3 (by decide +kernel)) (rg_w (c := 0) (d := 1) (show rg 1 1 _ from (rg_neL hs0 (rg_c (a := 0) (b := 0) (by decide +kernel)) c39 (by decide +kernel))) (by decide +kernel)) (rg_w (c := 1) (d := 4) (rg_c (a := 4) (b := 4) (by decide +kernel)) (by decide +kernel)) hI)
  refine hX.1 0 _ rfl _ _ _ _ ?_
  refine And.intro (fun c40 => ?_) (fun c40 => ?_)
  · -- 16
    refine hX.1 1 _ rfl _ _ _ _ ?_
    exact hX.2 _ _ [(0, .inr 3), (1, .inl _), (3, .inl _)] _ _ _ (mWc rfl (mWc rfl (mWc rfl mW0))) (b17 _ _ _ _ _ (rg_w (c := 1) (d := 2) hx1 (by decide +kernel)) (rg_w (c := 0) (d := 2016) (show rg 0 1535 _ from (rg_lt (show rg 0 2016 _ from (rg_mul hx2 (rg_c (a := 32) (b := 32) (by decide +kernel)) (by decide +kernel))) (rg_c (a := 1536) (b := 1536) (by decide +kernel)) c40 (by decide +kernel))) (by decide +kernel)) (rg_w (c := 0) (d := 1) (rg_c (a := 0) (b := 0) (by decide +kernel)) (by decide +kernel)) hI)
  · -- on
    exact hX.2 _ _ [(0, .inr 3), (1, .inl _), (3, .inl _)] _ _ _ (mWc rfl (mWc rfl (mWc rfl mW0))) (b17 _ _ _ _ _ (rg_w (c := 1) (d := 2) hx1 (by decide +kernel)) (rg_w (c := 0) (d := 2016) (show rg 1536 2016 _ from (rg_ge (show rg 0 2016 _ from (rg_mul hx2 (rg_c (a := 32) (b := 32) (by decide +kernel)) (by decide +kernel))) (rg_c (a := 1536) (b := 1536) (by decide +kernel)) (rg_nlt c40) (by decide +kernel))) (by decide +kernel)) (rg_w (c := 0) (d := 1) (rg_c (a := 1) (b := 1) (by decide +kernel)) (by decide +kernel)) hI)
def SPX3_fillBuffer (S : mSp) : Prop := ∀ (n e : Int) (f0 f : mFn) (g : mGn) (K : mKr) (x1 : Int32) (x2 : Int32), rg 0 31 x1 → cI n e f0 f g → (∀ (f' : mFn) (g' : mGn), cI n e f0 f' g' → K none f' g') → S [.inr 3, .inl x1, .inl x2] f g K
set_option maxRecDepth 100000 in
set_option maxHeartbeats 4000000 in
theorem sfX3_fillBuffer : SPX3_fillBuffer spX3_fillBuffer := by
  intro n e f0 f g K x1 x2 hx1 hI hK
  refine ⟨rfl, fun X hX => ?_⟩
  obtain ⟨S_X3_hasWord, k_X3_hasWord, hX⟩ : ∃ S_X3_hasWord, SPX3_hasWord S_X3_hasWord ∧ mR shC fdX3_fillBuffer [(76, 0, 1, 6, S_X3_hasWord)] bsX3_fillBuffer (fun r f g => mRt none r ∧ K r f g) X := ⟨spX3_hasWord, sfX3_hasWord, hX⟩
  refine hX.1 0 _ rfl _ _ _ _ ?_
  refine k_X3_hasWord n e f0 _ _ _ _ (rg_w (c := 0) (d := 31) hx1 (by decide +kernel)) hI (fun y7 hy7 => ?_)
  refine And.intro (fun c10 => ?_) (fun c10 => ?_)
  · -- 9
    refine hX.1 1 _ rfl _ _ _ _ ?_
    refine And.intro (rg_in hx1 (by decide +kernel)) ?_
    exact And.intro mRt_v (hK _ _ (gI_a0 (cP0 hI (by decide +kernel)) (by decide +kernel)))
  · -- on
    exact And.intro mRt_v (hK _ _ hI)
def SPX3_program (S : mSp) : Prop := ∀ (n e : Int) (f0 f : mFn) (g : mGn) (K : mKr) (x1 : Int32) (x2 : Int32) (x3 : Int32), cI n e f0 f g → (∀ (y : Int32) (f' : mFn) (g' : mGn), rg 0 8000 y → cI n e f0 f' g' → K (some (.inl y)) f' g') → S [.inr 3, .inl x1, .inl x2, .inl x3] f g K
set_option maxRecDepth 100000 in
set_option maxHeartbeats 4000000 in
theorem sfX3_program : SPX3_program spX3_program := by
  intro n e f0 f g K x1 x2 x3  hI hK
  refine ⟨rfl, fun X hX => ?_⟩
  obtain ⟨S_X3_command, k_X3_command, S_X3_changePage, k_X3_changePage, S_X3_fillBuffer, k_X3_fillBuffer, S_X3_endCommand, k_X3_endCommand, hX⟩ : ∃ S_X3_command, SPX3_command S_X3_command ∧ ∃ S_X3_changePage, SPX3_changePage S_X3_changePage ∧ ∃ S_X3_fillBuffer, SPX3_fillBuffer S_X3_fillBuffer ∧ ∃ S_X3_endCommand, SPX3_endCommand S_X3_endCommand ∧ mR shC fdX3_program [(56, 0, 0, 6, S_X3_command), (68, 0, 2, 6, S_X3_changePage), (72, 0, 2, 6, S_X3_fillBuffer), (53, 0, 0, 6, S_X3_endCommand)] bsX3_program (fun r f g => mRt (some .int) r ∧ K r f g) X := ⟨spX3_command, sfX3_command, spX3_changePage, sfX3_changePage, spX3_fillBuffer, sfX3_fillBuffer, spX3_endCommand, sfX3_endCommand, hX⟩
  have b21 : ∀ (f : mFn) (g : mGn), cI n e f0 f g → X 21 [] [] f g := by
    intro f g  hI
    refine hX.1 1 _ rfl _ _ _ _ ?_
    exact And.intro mRt_i (hK _ _ _ (rg_w (c := 0) (d := 8000) (rg_c (a := 0) (b := 0) (by decide +kernel)) (by decide +kernel)) hI)
  have b46 : ∀ (a2 : Int32) (a4 : Int32) (f : mFn) (g : mGn), rg 1 2 a4 → cI n e f0 f g → X 46 [(0, .inr 3), (2, .inl a2), (4, .inl a4)] [] f g := by
    intro a2 a4 f g ha4 hI
    refine hX.1 3 _ rfl _ _ _ _ ?_
    refine k_X3_changePage n e f0 _ _ _ _ _ (rg_w (c := 1) (d := 2) ha4 (by decide +kernel)) (rg_w (c := 0) (d := 63) (show rg 0 63 _ from (rg_andR (rg_c (a := 63) (b := 63) (by decide +kernel)) (by decide +kernel))) (by decide +kernel)) hI (fun y25 f26 gf26 hy25 hI27 => ?_)
    exact And.intro mRt_i (hK _ _ _ (rg_w (c := 0) (d := 8000) hy25 (by decide +kernel)) hI27)
  have b124 : ∀ (f : mFn) (g : mGn), cI n e f0 f g → X 124 [(0, .inr 3)] [] f g := by
    intro f g  hI
    refine hX.1 7 _ rfl _ _ _ _ ?_
    refine k_X3_endCommand n e f0 _ _ _  hI (fun f29 gf29 hI30 => ?_)
    exact And.intro mRt_i (hK _ _ _ (rg_w (c := 0) (d := 8000) (rg_c (a := 0) (b := 0) (by decide +kernel)) (by decide +kernel)) hI30)
  refine hX.1 0 _ rfl _ _ _ _ ?_
  refine And.intro (fun c31 => ?_) (fun c31 => ?_)
  · -- 21
    exact hX.2 _ _ [] _ _ _ mW0 (b21  _ _  hI)
  · -- on
    refine And.intro (fun c32 => ?_) (fun c32 => ?_)
    · -- 21
      exact hX.2 _ _ [] _ _ _ mW0 (b21  _ _  hI)
    · -- on
      refine And.intro (fun c33 => ?_) (fun c33 => ?_)
      · -- 23
        refine hX.1 2 _ rfl _ _ _ _ ?_
        refine k_X3_command n e f0 _ _ _   (cP0 hI (by decide +kernel)) (fun y35 hy35 => ?_)
        refine And.intro (fun c38 => ?_) (fun c38 => ?_)
        · -- 46
          exact hX.2 _ _ [(0, .inr 3), (2, .inl _), (4, .inl _)] _ _ _ (mWc rfl (mWc rfl (mWc rfl mW0))) (b46 _ _ _ _ (rg_w (c := 1) (d := 2) (show rg 1 1 _ from (rg_eq (rg_c (a := 1) (b := 1) (by decide +kernel)) c38)) (by decide +kernel)) (cP0 hI (by decide +kernel)))
        · -- on
          refine And.intro (fun c39 => ?_) (fun c39 => ?_)
          · -- 60
            refine hX.1 4 _ rfl _ _ _ _ ?_
            refine And.intro (fun c40 => ?_) (fun c40 => ?_)
            · -- 79
              refine hX.1 5 _ rfl _ _ _ _ ?_
              refine And.intro (fun c41 => ?_) (fun c41 => ?_)
              · -- 106
                refine hX.1 6 _ rfl _ _ _ _ ?_
                refine And.intro (fun c42 => ?_) (fun c42 => ?_)
                · -- 124
                  exact hX.2 _ _ [(0, .inr 3)] _ _ _ (mWc rfl mW0) (b124  _ _  (cP0 hI (by decide +kernel)))
                · -- on
                  exact hX.2 _ _ [(0, .inr 3)] _ _ _ (mWc rfl mW0) (b124  _ _  (cP0 (cP0 hI (by decide +kernel)) (by decide +kernel)))
              · -- on
                refine And.intro (rg_in (rg_c (a := 87) (b := 87) (by decide +kernel)) (by decide +kernel)) ?_
                refine And.intro (rg_in (rg_c (a := 87) (b := 87) (by decide +kernel)) (by decide +kernel)) ?_
                exact hX.2 _ _ [(0, .inr 3)] _ _ _ (mWc rfl mW0) (b124  _ _  (cP0 (gI_a0 (cP0 hI (by decide +kernel)) (by decide +kernel)) (by decide +kernel)))
            · -- on
              refine k_X3_fillBuffer n e f0 _ _ _ _ _ (rg_w (c := 0) (d := 31) (show rg 0 31 _ from (rg_andR (rg_c (a := 31) (b := 31) (by decide +kernel)) (by decide +kernel))) (by decide +kernel)) (cP0 hI (by decide +kernel)) (fun f47 gf47 hI48 => ?_)
              exact hX.2 _ _ [(0, .inr 3)] _ _ _ (mWc rfl mW0) (b124  _ _  hI48)
          · -- on
            exact hX.2 _ _ [(0, .inr 3), (2, .inl _), (4, .inl _)] _ _ _ (mWc rfl (mWc rfl (mWc rfl mW0))) (b46 _ _ _ _ (rg_w (c := 1) (d := 2) (show rg 2 2 _ from (rg_eq (rg_c (a := 2) (b := 2) (by decide +kernel)) c39)) (by decide +kernel)) (cP0 hI (by decide +kernel)))
      · -- on
        exact hX.2 _ _ [] _ _ _ mW0 (b21  _ _  hI)
def SPX5_push (S : mSp) : Prop := ∀ (n e : Int) (f0 f : mFn) (g : mGn) (K : mKr) (x1 : Int32), n + 1 ≤ 300000000 → cI n e f0 f g → (∀ (f' : mFn) (g' : mGn), cI (n + 1) e f0 f' g' → K none f' g') → S [.inr 1, .inl x1] f g K
set_option maxRecDepth 100000 in
set_option maxHeartbeats 4000000 in
theorem sfX5_push : SPX5_push spX5_push := by
  intro n e f0 f g K x1  hB hI hK
  refine ⟨rfl, fun X hX => ?_⟩
  obtain ⟨S_X5_stackPointer, k_X5_stackPointer, S_X5_store, k_X5_store, S_X5_moveStack, k_X5_moveStack, hX⟩ : ∃ S_X5_stackPointer, SPX5_stackPointer S_X5_stackPointer ∧ ∃ S_X5_store, SPX5_store S_X5_store ∧ ∃ S_X5_moveStack, SPX5_moveStack S_X5_moveStack ∧ mR shC fdX5_push [(117, 0, 0, 8, S_X5_stackPointer), (120, 0, 2, 8, S_X5_store), (123, 0, 1, 8, S_X5_moveStack)] bsX5_push (fun r f g => mRt none r ∧ K r f g) X := ⟨spX5_stackPointer, sfX5_stackPointer, spX5_store, sfX5_store, spX5_moveStack, sfX5_moveStack, hX⟩
  refine hX.1 0 _ rfl _ _ _ _ ?_
  refine k_X5_stackPointer n e f0 _ _ _   hI (fun y10 => ?_)
  refine k_X5_store n e f0 _ _ _ _ _  (by omega) hI (fun f14 gf14 hI15 => ?_)
  refine k_X5_moveStack (n + 1) e f0 _ _ _ _  hI15 (fun f17 gf17 hI18 => ?_)
  exact And.intro mRt_v (hK _ _ hI18)
def SPX1_pushPc (S : mSp) : Prop := ∀ (n e : Int) (f0 f : mFn) (g : mGn) (K : mKr), n + 2 ≤ 300000000 → cI n e f0 f g → (∀ (f' : mFn) (g' : mGn), cI (n + 2) e f0 f' g' → K none f' g') → S [.inr 2] f g K
set_option maxRecDepth 100000 in
set_option maxHeartbeats 4000000 in
theorem sfX1_pushPc : SPX1_pushPc spX1_pushPc := by
  intro n e f0 f g K   hB hI hK
  refine ⟨rfl, fun X hX => ?_⟩
  obtain ⟨S_X5_push, k_X5_push, hX⟩ : ∃ S_X5_push, SPX5_push S_X5_push ∧ mR shC fdX1_pushPc [(131, 0, 1, 8, S_X5_push)] bsX1_pushPc (fun r f g => mRt none r ∧ K r f g) X := ⟨spX5_push, sfX5_push, hX⟩
  refine hX.1 0 _ rfl _ _ _ _ ?_
  refine k_X5_push n e f0 _ _ _ _  (by omega) hI (fun f8 gf8 hI9 => ?_)
  refine k_X5_push (n + 1) e f0 _ _ _ _  (by omega) hI9 (fun f11 gf11 hI12 => ?_)
  have hI12 := cN hI12 (show _ = n + 2 by omega)
  exact And.intro mRt_v (hK _ _ hI12)
def SPX1_control (S : mSp) : Prop := ∀ (n e : Int) (f0 f : mFn) (g : mGn) (K : mKr) (x1 : Int32), n + 2 ≤ 300000000 → cI n e f0 f g → (∀ (y : Int32) (f' : mFn) (g' : mGn), rg 1 8001 y → cI (n + 2) e f0 f' g' → K (some (.inl y)) f' g') → S [.inr 2, .inl x1] f g K
set_option maxRecDepth 100000 in
set_option maxHeartbeats 4000000 in
theorem sfX1_control : SPX1_control spX1_control := by
  intro n e f0 f g K x1  hB hI hK
  refine ⟨rfl, fun X hX => ?_⟩
  obtain ⟨S_X1_statusBit, k_X1_statusBit, S_X1_popPc, k_X1_popPc, S_X1_pair, k_X1_pair, S_X3_seenByte, k_X3_seenByte, S_X3_program, k_X3_program, S_X1_pushPc, k_X1_pushPc, hX⟩ : ∃ S_X1_statusBit, SPX1_statusBit S_X1_statusBit ∧ ∃ S_X1_popPc, SPX1_popPc S_X1_popPc ∧ ∃ S_X1_pair, SPX1_pair S_X1_pair ∧ ∃ S_X3_seenByte, SPX3_seenByte S_X3_seenByte ∧ ∃ S_X3_program, SPX3_program S_X3_program ∧ ∃ S_X1_pushPc, SPX1_pushPc S_X1_pushPc ∧ mR shC fdX1_control [(208, 0, 1, 4, S_X1_statusBit), (211, 0, 0, 4, S_X1_popPc), (149, 0, 1, 4, S_X1_pair), (191, 0, 2, 6, S_X3_seenByte), (222, 0, 3, 6, S_X3_program), (44, 0, 0, 4, S_X1_pushPc)] bsX1_control (fun r f g => mRt (some .int) r ∧ K r f g) X := ⟨spX1_statusBit, sfX1_statusBit, spX1_popPc, sfX1_popPc, spX1_pair, sfX1_pair, spX3_seenByte, sfX3_seenByte, spX3_program, sfX3_program, spX1_pushPc, sfX1_pushPc, hX⟩
  refine hX.1 0 _ rfl _ _ _ _ ?_
  refine And.intro (fun c49 => ?_) (fun c49 => ?_)
  · -- 15
    refine hX.1 1 _ rfl _ _ _ _ ?_
    refine And.intro (fun c50 => ?_) (fun c50 => ?_)
    · -- 187
      refine hX.1 8 _ rfl _ _ _ _ ?_
      refine k_X1_pair n e f0 _ _ _ _ (rg_w (c := 0) (d := 30) (rg_c (a := 30) (b := 30) (by decide +kernel)) (by decide +kernel)) hI (fun y51 => ?_)
      exact And.intro mRt_i (hK _ _ _ (rg_w (c := 1) (d := 8001) (rg_c (a := 2) (b := 2) (by decide +kernel)) (by decide +kernel)) (cM (cP0 hI (by decide +kernel)) (by omega) (by omega)))
    · -- on
      refine And.intro (fun c55 => ?_) (fun c55 => ?_)
      · -- 92
        refine hX.1 2 _ rfl _ _ _ _ ?_
        refine k_X1_popPc n e f0 _ _ _  hI (fun f57 gf57 hI58 => ?_)
        exact And.intro mRt_i (hK _ _ _ (rg_w (c := 1) (d := 8001) (rg_c (a := 4) (b := 4) (by decide +kernel)) (by decide +kernel)) (cM hI58 (by omega) (by omega)))
      · -- on
        refine And.intro (fun c59 => ?_) (fun c59 => ?_)
        · -- 203
          refine hX.1 9 _ rfl _ _ _ _ ?_
          refine k_X1_pushPc n e f0 _ _ _   (by omega) hI (fun f61 gf61 hI62 => ?_)
          refine k_X1_pair (n + 2) e f0 _ _ _ _ (rg_w (c := 0) (d := 30) (rg_c (a := 30) (b := 30) (by decide +kernel)) (by decide +kernel)) hI62 (fun y63 => ?_)
          exact And.intro mRt_i (hK _ _ _ (rg_w (c := 1) (d := 8001) (rg_c (a := 3) (b := 3) (by decide +kernel)) (by decide +kernel)) (cP0 hI62 (by decide +kernel)))
        · -- on
          refine And.intro (fun c67 => ?_) (fun c67 => ?_)
          · -- 98
            refine hX.1 3 _ rfl _ _ _ _ ?_
            refine k_X1_popPc n e f0 _ _ _  hI (fun f69 gf69 hI70 => ?_)
            refine And.intro (rg_in (rg_c (a := 95) (b := 95) (by decide +kernel)) (by decide +kernel)) ?_
            refine And.intro (rg_in (rg_c (a := 95) (b := 95) (by decide +kernel)) (by decide +kernel)) ?_
            exact And.intro mRt_i (hK _ _ _ (rg_w (c := 1) (d := 8001) (rg_c (a := 4) (b := 4) (by decide +kernel)) (by decide +kernel)) (cM (gI_a0 hI70 (by decide +kernel)) (by omega) (by omega)))
          · -- on
            refine And.intro (fun c72 => ?_) (fun c72 => ?_)
            · -- 117
              refine hX.1 4 _ rfl _ _ _ _ ?_
              refine And.intro (rg_01 (rg_c (a := 1) (b := 1) (by decide +kernel)) (by decide +kernel)) ?_
              exact And.intro mRt_i (hK _ _ _ (rg_w (c := 1) (d := 8001) (rg_c (a := 1) (b := 1) (by decide +kernel)) (by decide +kernel)) (cM (cP0 hI (by decide +kernel)) (by omega) (by omega)))
            · -- on
              refine And.intro (fun c74 => ?_) (fun c74 => ?_)
              · -- 124
                refine hX.1 5 _ rfl _ _ _ _ ?_
                exact And.intro mRt_i (hK _ _ _ (rg_w (c := 1) (d := 8001) (rg_c (a := 1) (b := 1) (by decide +kernel)) (by decide +kernel)) (cM (cP0 hI (by decide +kernel)) (by omega) (by omega)))
              · -- on
                refine And.intro (fun c76 => ?_) (fun c76 => ?_)
                · -- 137
                  refine hX.1 6 _ rfl _ _ _ _ ?_
                  refine k_X1_pair n e f0 _ _ _ _ (rg_w (c := 0) (d := 30) (rg_c (a := 30) (b := 30) (by decide +kernel)) (by decide +kernel)) hI (fun y77 => ?_)
                  refine k_X3_seenByte n e f0 _ _ _ _ _  hI (fun y80 f81 gf81 hI82 => ?_)
                  refine And.intro (rg_in (rg_c (a := 0) (b := 0) (by decide +kernel)) (by decide +kernel)) ?_
                  exact And.intro mRt_i (hK _ _ _ (rg_w (c := 1) (d := 8001) (rg_c (a := 3) (b := 3) (by decide +kernel)) (by decide +kernel)) (cM (gI_a0 hI82 (by decide +kernel)) (by omega) (by omega)))
                · -- on
                  refine And.intro (fun c84 => ?_) (fun c84 => ?_)
                  · -- 162
                    refine hX.1 7 _ rfl _ _ _ _ ?_
                    refine k_X1_pair n e f0 _ _ _ _ (rg_w (c := 0) (d := 30) (rg_c (a := 30) (b := 30) (by decide +kernel)) (by decide +kernel)) hI (fun y85 => ?_)
                    refine k_X1_pair n e f0 _ _ _ _ (rg_w (c := 0) (d := 30) (rg_c (a := 0) (b := 0) (by decide +kernel)) (by decide +kernel)) hI (fun y88 => ?_)
                    refine k_X3_program n e f0 _ _ _ _ _ _  hI (fun y91 f92 gf92 hy91 hI93 => ?_)
                    exact And.intro mRt_i (hK _ _ _ (rg_w (c := 1) (d := 8001) (show rg 1 8001 _ from (rg_add (rg_c (a := 1) (b := 1) (by decide +kernel)) hy91 (by decide +kernel))) (by decide +kernel)) (cM hI93 (by omega) (by omega)))
                  · -- on
                    refine hX.1 10 _ rfl _ _ _ _ ?_
                    exact And.intro mRt_i (hK _ _ _ (rg_w (c := 1) (d := 8001) (rg_c (a := 1) (b := 1) (by decide +kernel)) (by decide +kernel)) (cM hI (by omega) (by omega)))
  · -- on
    refine k_X1_statusBit n e f0 _ _ _ _  hI (fun y94 f95 gf95 hy94 hI96 => ?_)
    exact And.intro mRt_i (hK _ _ _ (rg_w (c := 1) (d := 8001) hy94 (by decide +kernel)) (cM hI96 (by omega) (by omega)))
def SPX1_enter (S : mSp) : Prop := ∀ (n e : Int) (f0 f : mFn) (g : mGn) (K : mKr) (x1 : Int32), rg 1 8 x1 → n + 2 ≤ 300000000 → cI n e f0 f g → (∀ (f' : mFn) (g' : mGn), cI (n + 2) e f0 f' g' → K none f' g') → S [.inr 2, .inl x1] f g K
set_option maxRecDepth 100000 in
set_option maxHeartbeats 4000000 in
theorem sfX1_enter : SPX1_enter spX1_enter := by
  intro n e f0 f g K x1 hx1 hB hI hK
  refine ⟨rfl, fun X hX => ?_⟩
  obtain ⟨S_X1_pushPc, k_X1_pushPc, hX⟩ : ∃ S_X1_pushPc, SPX1_pushPc S_X1_pushPc ∧ mR shC fdX1_enter [(44, 0, 0, 4, S_X1_pushPc)] bsX1_enter (fun r f g => mRt none r ∧ K r f g) X := ⟨spX1_pushPc, sfX1_pushPc, hX⟩
  have b165 : ∀ (s1 : Int32) (s2 : Int32) (f : mFn) (g : mGn), rg 0 16 s1 → rg 0 1536 s2 → cI (n + 2) e f0 f g → X 165 [] [.inl s2, .inl s1, .inr 2] f g := by
    intro s1 s2 f g hs1 hs2 hI
    refine hX.1 9 _ rfl _ _ _ _ ?_
    exact And.intro mRt_v (hK _ _ (cP0 hI (by decide +kernel)))
  have b129 : ∀ (a1 : Int32) (f : mFn) (g : mGn), rg 1 8 a1 → cI (n + 2) e f0 f g → X 129 [(0, .inr 2), (1, .inl a1)] [] f g := by
    intro a1 f g ha1 hI
    refine hX.1 7 _ rfl _ _ _ _ ?_
    refine And.intro (rg_in (rg_c (a := 95) (b := 95) (by decide +kernel)) (by decide +kernel)) ?_
    refine And.intro (rg_in (rg_c (a := 95) (b := 95) (by decide +kernel)) (by decide +kernel)) ?_
    refine And.intro (rg_in (rg_c (a := 85) (b := 85) (by decide +kernel)) (by decide +kernel)) ?_
    refine And.intro (fun c21 => ?_) (fun c21 => ?_)
    · -- 164
      refine hX.1 8 _ rfl _ _ _ _ ?_
      exact hX.2 _ _ [] _ _ _ mW0 (b165 _ _ _ _ (rg_w (c := 0) (d := 16) (show rg 0 16 _ from (rg_mul (rg_c (a := 2) (b := 2) (by decide +kernel)) ha1 (by decide +kernel))) (by decide +kernel)) (rg_w (c := 0) (d := 1536) (rg_c (a := 0) (b := 0) (by decide +kernel)) (by decide +kernel)) (gI_a0 hI (by decide +kernel)))
    · -- on
      exact hX.2 _ _ [] _ _ _ mW0 (b165 _ _ _ _ (rg_w (c := 0) (d := 16) (show rg 0 16 _ from (rg_mul (rg_c (a := 2) (b := 2) (by decide +kernel)) ha1 (by decide +kernel))) (by decide +kernel)) (rg_w (c := 0) (d := 1536) (rg_c (a := 1536) (b := 1536) (by decide +kernel)) (by decide +kernel)) (gI_a0 hI (by decide +kernel)))
  have b78 : ∀ (a1 : Int32) (s1 : Int32) (s2 : Int32) (s3 : Int32) (f : mFn) (g : mGn), rg 1 1 a1 → rg 96 96 s1 → rg (-193) (-129) s3 → cI (n + 2) e f0 f g → X 78 [(0, .inr 2), (1, .inl a1)] [.inl s3, .inl s2, .inl s1, .inr 9] f g := by
    intro a1 s1 s2 s3 f g ha1 hs1 hs3 hI
    refine hX.1 3 _ rfl _ _ _ _ ?_
    refine And.intro (rg_in hs1 (by decide +kernel)) ?_
    exact hX.2 _ _ [(0, .inr 2), (1, .inl _)] _ _ _ (mWc rfl (mWc rfl mW0)) (b129 _ _ _ (rg_w (c := 1) (d := 8) ha1 (by decide +kernel)) (gI_a0 hI (by decide +kernel)))
  refine hX.1 0 _ rfl _ _ _ _ ?_
  refine And.intro (rg_01 (rg_c (a := 0) (b := 0) (by decide +kernel)) (by decide +kernel)) ?_
  refine k_X1_pushPc n e f0 _ _ _   (by omega) (cP0 hI (by decide +kernel)) (fun f25 gf25 hI26 => ?_)
  refine And.intro (fun c27 => ?_) (fun c27 => ?_)
  · -- 48
    refine hX.1 1 _ rfl _ _ _ _ ?_
    refine And.intro (rg_in (rg_c (a := 96) (b := 96) (by decide +kernel)) (by decide +kernel)) ?_
    refine And.intro (rg_in (rg_c (a := 96) (b := 96) (by decide +kernel)) (by decide +kernel)) ?_
    refine And.intro (fun c28 => ?_) (fun c28 => ?_)
    · -- 75
      refine hX.1 2 _ rfl _ _ _ _ ?_
      exact hX.2 _ _ [(0, .inr 2), (1, .inl _)] _ _ _ (mWc rfl (mWc rfl mW0)) (b78 _ _ _ _ _ _ (rg_w (c := 1) (d := 1) (show rg 1 1 _ from (rg_eq (rg_c (a := 1) (b := 1) (by decide +kernel)) c27)) (by decide +kernel)) (rg_w (c := 96) (d := 96) (rg_c (a := 96) (b := 96) (by decide +kernel)) (by decide +kernel)) (rg_w (c := (-193)) (d := (-129)) (rg_c (a := (-129)) (b := (-129)) (by decide +kernel)) (by decide +kernel)) hI26)
    · -- on
      exact hX.2 _ _ [(0, .inr 2), (1, .inl _)] _ _ _ (mWc rfl (mWc rfl mW0)) (b78 _ _ _ _ _ _ (rg_w (c := 1) (d := 1) (show rg 1 1 _ from (rg_eq (rg_c (a := 1) (b := 1) (by decide +kernel)) c27)) (by decide +kernel)) (rg_w (c := 96) (d := 96) (rg_c (a := 96) (b := 96) (by decide +kernel)) (by decide +kernel)) (rg_w (c := (-193)) (d := (-129)) (rg_c (a := (-193)) (b := (-193)) (by decide +kernel)) (by decide +kernel)) hI26)
  · -- on
    refine And.intro (fun c29 => ?_) (fun c29 => ?_)
    · -- 83
      refine hX.1 4 _ rfl _ _ _ _ ?_
      refine And.intro (rg_in (rg_c (a := 53) (b := 53) (by decide +kernel)) (by decide +kernel)) ?_
      refine And.intro (rg_in (rg_c (a := 53) (b := 53) (by decide +kernel)) (by decide +kernel)) ?_
      exact hX.2 _ _ [(0, .inr 2), (1, .inl _)] _ _ _ (mWc rfl (mWc rfl mW0)) (b129 _ _ _ (rg_w (c := 1) (d := 8) (show rg 2 2 _ from (rg_eq (rg_c (a := 2) (b := 2) (by decide +kernel)) c29)) (by decide +kernel)) (gI_a0 hI26 (by decide +kernel)))
    · -- on
      refine And.intro (fun c31 => ?_) (fun c31 => ?_)
      · -- 98
        refine hX.1 5 _ rfl _ _ _ _ ?_
        refine And.intro (rg_in (rg_c (a := 53) (b := 53) (by decide +kernel)) (by decide +kernel)) ?_
        refine And.intro (rg_in (rg_c (a := 53) (b := 53) (by decide +kernel)) (by decide +kernel)) ?_
        exact hX.2 _ _ [(0, .inr 2), (1, .inl _)] _ _ _ (mWc rfl (mWc rfl mW0)) (b129 _ _ _ (rg_w (c := 1) (d := 8) (show rg 3 3 _ from (rg_eq (rg_c (a := 3) (b := 3) (by decide +kernel)) c31)) (by decide +kernel)) (gI_a0 hI26 (by decide +kernel)))
      · -- on
        refine And.intro (fun c33 => ?_) (fun c33 => ?_)
        · -- 129
          exact hX.2 _ _ [(0, .inr 2), (1, .inl _)] _ _ _ (mWc rfl (mWc rfl mW0)) (b129 _ _ _ (rg_w (c := 1) (d := 8) (show rg 4 4 _ from (rg_eq (rg_c (a := 4) (b := 4) (by decide +kernel)) c33)) (by decide +kernel)) hI26)
        · -- on
          refine And.intro (fun c34 => ?_) (fun c34 => ?_)
          · -- 129
            exact hX.2 _ _ [(0, .inr 2), (1, .inl _)] _ _ _ (mWc rfl (mWc rfl mW0)) (b129 _ _ _ (rg_w (c := 1) (d := 8) (show rg 5 5 _ from (rg_eq (rg_c (a := 5) (b := 5) (by decide +kernel)) c34)) (by decide +kernel)) hI26)
          · -- on
            refine And.intro (fun c35 => ?_) (fun c35 => ?_)
            · -- 113
              refine hX.1 6 _ rfl _ _ _ _ ?_
              refine And.intro (rg_in (rg_c (a := 192) (b := 192) (by decide +kernel)) (by decide +kernel)) ?_
              refine And.intro (rg_in (rg_c (a := 192) (b := 192) (by decide +kernel)) (by decide +kernel)) ?_
              exact hX.2 _ _ [(0, .inr 2), (1, .inl _)] _ _ _ (mWc rfl (mWc rfl mW0)) (b129 _ _ _ (rg_w (c := 1) (d := 8) (show rg 6 6 _ from (rg_eq (rg_c (a := 6) (b := 6) (by decide +kernel)) c35)) (by decide +kernel)) (gI_a0 hI26 (by decide +kernel)))
            · -- on
              exact hX.2 _ _ [(0, .inr 2), (1, .inl _)] _ _ _ (mWc rfl (mWc rfl mW0)) (b129 _ _ _ (rg_w (c := 1) (d := 8) (show rg 7 8 _ from (rg_neL (show rg 6 8 _ from (rg_neL (show rg 5 8 _ from (rg_neL (show rg 4 8 _ from (rg_neL (show rg 3 8 _ from (rg_neL (show rg 2 8 _ from (rg_neL hx1 (rg_c (a := 1) (b := 1) (by decide +kernel)) c27 (by decide +kernel))) (rg_c (a := 2) (b := 2) (by decide +kernel)) c29 (by decide +kernel))) (rg_c (a := 3) (b := 3) (by decide +kernel)) c31 (by decide +kernel))) (rg_c (a := 4) (b := 4) (by decide +kernel)) c33 (by decide +kernel))) (rg_c (a := 5) (b := 5) (by decide +kernel)) c34 (by decide +kernel))) (rg_c (a := 6) (b := 6) (by decide +kernel)) c35 (by decide +kernel))) (by decide +kernel)) hI26)
def SPX1_goTo (S : mSp) : Prop := ∀ (n e : Int) (f0 f : mFn) (g : mGn) (K : mKr) (x1 : Int32), rg 0 2047 x1 → cI n e f0 f g → (∀ (f' : mFn) (g' : mGn), cI n e f0 f' g' → K none f' g') → S [.inr 2, .inl x1] f g K
set_option maxRecDepth 100000 in
set_option maxHeartbeats 4000000 in
theorem sfX1_goTo : SPX1_goTo spX1_goTo := by
  intro n e f0 f g K x1 hx1 hI hK
  refine ⟨rfl, fun X hX => ?_⟩
  refine hX.1 0 _ rfl _ _ _ _ ?_
  refine And.intro (rg_01 (rg_c (a := 0) (b := 0) (by decide +kernel)) (by decide +kernel)) ?_
  exact And.intro mRt_v (hK _ _ (cP0 (cP0 hI (by decide +kernel)) (by decide +kernel)))
def SPX1_kind (S : mSp) : Prop := ∀ (n e : Int) (f0 f : mFn) (g : mGn) (K : mKr) (x0 : Int32), cI n e f0 f g → (∀ (y : Int32), rg (-524288) 524287 y → K (some (.inl y)) f g) → S [.inl x0] f g K
set_option maxRecDepth 100000 in
set_option maxHeartbeats 4000000 in
theorem sfX1_kind : SPX1_kind spX1_kind := by
  intro n e f0 f g K x0  hI hK
  refine ⟨rfl, fun X hX => ?_⟩
  have b26 : ∀ (s0 : Int32), rg (-524288) 524287 s0 → X 26 [] [.inl s0] f g := by
    intro s0 hs0
    refine hX.1 2 _ rfl _ _ _ _ ?_
    exact And.intro mRt_i (hK _ (rg_w (c := (-524288)) (d := 524287) hs0 (by decide +kernel)) )
  refine hX.1 0 _ rfl _ _ _ _ ?_
  refine And.intro (fun c2 => ?_) (fun c2 => ?_)
  · -- 25
    refine hX.1 1 _ rfl _ _ _ _ ?_
    exact hX.2 _ _ [] _ _ _ mW0 (b26 _ (rg_w (c := (-524288)) (d := 524287) (show rg (-524288) 524287 _ from (rg_shrK 12 (rg_all _) (by decide +kernel) (by decide +kernel))) (by decide +kernel)))
  · -- on
    exact hX.2 _ _ [] _ _ _ mW0 (b26 _ (rg_w (c := (-524288)) (d := 524287) (show rg 0 255 _ from (rg_or (k := 8) (rg_c (a := 144) (b := 144) (by decide +kernel)) (show rg 0 7 _ from (rg_andR (rg_c (a := 7) (b := 7) (by decide +kernel)) (by decide +kernel))) (by decide +kernel))) (by decide +kernel)))
def SPX1_second (S : mSp) : Prop := ∀ (n e : Int) (f0 f : mFn) (g : mGn) (K : mKr) (x0 : Int32), cI n e f0 f g → (∀ (y : Int32), rg 0 31 y → K (some (.inl y)) f g) → S [.inl x0] f g K
set_option maxRecDepth 100000 in
set_option maxHeartbeats 4000000 in
theorem sfX1_second : SPX1_second spX1_second := by
  intro n e f0 f g K x0  hI hK
  refine ⟨rfl, fun X hX => ?_⟩
  refine hX.1 0 _ rfl _ _ _ _ ?_
  exact And.intro mRt_i (hK _ (rg_w (c := 0) (d := 31) (show rg 0 31 _ from (rg_or (k := 5) (show rg 0 16 _ from (rg_andR (rg_c (a := 16) (b := 16) (by decide +kernel)) (by decide +kernel))) (show rg 0 15 _ from (rg_andR (rg_c (a := 15) (b := 15) (by decide +kernel)) (by decide +kernel))) (by decide +kernel))) (by decide +kernel)) )
def SPX1_setPair (S : mSp) : Prop := ∀ (n e : Int) (f0 f : mFn) (g : mGn) (K : mKr) (x1 : Int32) (x2 : Int32), rg 0 30 x1 → cI n e f0 f g → (∀ (f' : mFn) (g' : mGn), cI n e f0 f' g' → K none f' g') → S [.inr 2, .inl x1, .inl x2] f g K
set_option maxRecDepth 100000 in
set_option maxHeartbeats 4000000 in
theorem sfX1_setPair : SPX1_setPair spX1_setPair := by
  intro n e f0 f g K x1 x2 hx1 hI hK
  refine ⟨rfl, fun X hX => ?_⟩
  refine hX.1 0 _ rfl _ _ _ _ ?_
  refine And.intro (rg_in (show rg 1 31 _ from (rg_add hx1 (rg_c (a := 1) (b := 1) (by decide +kernel)) (by decide +kernel))) (by decide +kernel)) ?_
  refine And.intro (rg_in hx1 (by decide +kernel)) ?_
  exact And.intro mRt_v (hK _ _ (gI_a0 (gI_a0 hI (by decide +kernel)) (by decide +kernel)))
def SPX1_multiply (S : mSp) : Prop := ∀ (n e : Int) (f0 f : mFn) (g : mGn) (K : mKr) (x1 : Int32) (x2 : Int32), rg 0 1 x2 → cI n e f0 f g → (∀ (y : Int32) (f' : mFn) (g' : mGn), rg 2 2 y → cI n e f0 f' g' → K (some (.inl y)) f' g') → S [.inr 2, .inl x1, .inl x2] f g K
set_option maxRecDepth 100000 in
set_option maxHeartbeats 4000000 in
theorem sfX1_multiply : SPX1_multiply spX1_multiply := by
  intro n e f0 f g K x1 x2 hx2 hI hK
  refine ⟨rfl, fun X hX => ?_⟩
  obtain ⟨S_X1_setPair, k_X1_setPair, S_X0_markProduct, k_X0_markProduct, hX⟩ : ∃ S_X1_setPair, SPX1_setPair S_X1_setPair ∧ ∃ S_X0_markProduct, SPX0_markProduct S_X0_markProduct ∧ mR shC fdX1_multiply [(152, 0, 2, 4, S_X1_setPair), (163, 0, 2, 3, S_X0_markProduct)] bsX1_multiply (fun r f g => mRt (some .int) r ∧ K r f g) X := ⟨spX1_setPair, sfX1_setPair, spX0_markProduct, sfX0_markProduct, hX⟩
  have b11 : ∀ (a1 : Int32) (s0 : Int32) (f : mFn) (g : mGn), cI n e f0 f g → X 11 [(0, .inr 2), (1, .inl a1)] [.inl s0] f g := by
    intro a1 s0 f g  hI
    refine hX.1 2 _ rfl _ _ _ _ ?_
    refine k_X1_setPair n e f0 _ _ _ _ _ (rg_w (c := 0) (d := 30) (rg_c (a := 0) (b := 0) (by decide +kernel)) (by decide +kernel)) hI (fun f9 gf9 hI10 => ?_)
    refine k_X0_markProduct n e f0 _ _ _ _ _ (rg_w (c := 0) (d := 65535) (show rg 0 65535 _ from (rg_andR (rg_c (a := 65535) (b := 65535) (by decide +kernel)) (by decide +kernel))) (by decide +kernel)) hI10 (fun f12 gf12 hI13 => ?_)
    exact And.intro mRt_i (hK _ _ _ (rg_w (c := 2) (d := 2) (rg_c (a := 2) (b := 2) (by decide +kernel)) (by decide +kernel)) hI13)
  refine hX.1 0 _ rfl _ _ _ _ ?_
  refine And.intro (fun c14 => ?_) (fun c14 => ?_)
  · -- 10
    refine hX.1 1 _ rfl _ _ _ _ ?_
    exact hX.2 _ _ [(0, .inr 2), (1, .inl _)] _ _ _ (mWc rfl (mWc rfl mW0)) (b11 _ _ _ _  hI)
  · -- on
    exact hX.2 _ _ [(0, .inr 2), (1, .inl _)] _ _ _ (mWc rfl (mWc rfl mW0)) (b11 _ _ _ _  hI)
def SPX1_multiplyMixed (S : mSp) : Prop := ∀ (n e : Int) (f0 f : mFn) (g : mGn) (K : mKr) (x1 : Int32), cI n e f0 f g → (∀ (y : Int32) (f' : mFn) (g' : mGn), rg 2 2 y → cI n e f0 f' g' → K (some (.inl y)) f' g') → S [.inr 2, .inl x1] f g K
set_option maxRecDepth 100000 in
set_option maxHeartbeats 4000000 in
theorem sfX1_multiplyMixed : SPX1_multiplyMixed spX1_multiplyMixed := by
  intro n e f0 f g K x1  hI hK
  refine ⟨rfl, fun X hX => ?_⟩
  obtain ⟨S_X0_signed, k_X0_signed, S_X1_multiply, k_X1_multiply, hX⟩ : ∃ S_X0_signed, SPX0_signed S_X0_signed ∧ ∃ S_X1_multiply, SPX1_multiply S_X1_multiply ∧ mR shC fdX1_multiplyMixed [(156, 1, 1, 0, S_X0_signed), (119, 0, 2, 4, S_X1_multiply)] bsX1_multiplyMixed (fun r f g => mRt (some .int) r ∧ K r f g) X := ⟨spX0_signed, sfX0_signed, spX1_multiply, sfX1_multiply, hX⟩
  refine hX.1 0 _ rfl _ _ _ _ ?_
  refine And.intro (rg_in (show rg 16 23 _ from (rg_add (rg_c (a := 16) (b := 16) (by decide +kernel)) (show rg 0 7 _ from (rg_andR (rg_c (a := 7) (b := 7) (by decide +kernel)) (by decide +kernel))) (by decide +kernel))) (by decide +kernel)) ?_
  refine And.intro (rg_in (show rg 16 23 _ from (rg_add (rg_c (a := 16) (b := 16) (by decide +kernel)) (show rg 0 7 _ from (rg_andR (rg_c (a := 7) (b := 7) (by decide +kernel)) (by decide +kernel))) (by decide +kernel))) (by decide +kernel)) ?_
  refine And.intro (fun c28 => ?_) (fun c28 => ?_)
  · -- 68
    refine hX.1 1 _ rfl _ _ _ _ ?_
    refine k_X0_signed n e f0 _ _ _ _  hI (fun y29 hy29 => ?_)
    refine k_X1_multiply n e f0 _ _ _ _ _ (rg_w (c := 0) (d := 1) (rg_c (a := 0) (b := 0) (by decide +kernel)) (by decide +kernel)) hI (fun y32 f33 gf33 hy32 hI34 => ?_)
    exact And.intro mRt_i (hK _ _ _ (rg_w (c := 2) (d := 2) hy32 (by decide +kernel)) hI34)
  · -- on
    refine And.intro (fun c35 => ?_) (fun c35 => ?_)
    · -- 80
      refine hX.1 2 _ rfl _ _ _ _ ?_
      refine k_X1_multiply n e f0 _ _ _ _ _ (rg_w (c := 0) (d := 1) (rg_c (a := 1) (b := 1) (by decide +kernel)) (by decide +kernel)) hI (fun y36 f37 gf37 hy36 hI38 => ?_)
      exact And.intro mRt_i (hK _ _ _ (rg_w (c := 2) (d := 2) hy36 (by decide +kernel)) hI38)
    · -- on
      refine And.intro (fun c39 => ?_) (fun c39 => ?_)
      · -- 89
        refine hX.1 3 _ rfl _ _ _ _ ?_
        refine k_X0_signed n e f0 _ _ _ _  hI (fun y40 hy40 => ?_)
        refine k_X0_signed n e f0 _ _ _ _  hI (fun y43 hy43 => ?_)
        refine k_X1_multiply n e f0 _ _ _ _ _ (rg_w (c := 0) (d := 1) (rg_c (a := 1) (b := 1) (by decide +kernel)) (by decide +kernel)) hI (fun y46 f47 gf47 hy46 hI48 => ?_)
        exact And.intro mRt_i (hK _ _ _ (rg_w (c := 2) (d := 2) hy46 (by decide +kernel)) hI48)
      · -- on
        refine hX.1 4 _ rfl _ _ _ _ ?_
        refine k_X0_signed n e f0 _ _ _ _  hI (fun y49 hy49 => ?_)
        refine k_X1_multiply n e f0 _ _ _ _ _ (rg_w (c := 0) (d := 1) (rg_c (a := 1) (b := 1) (by decide +kernel)) (by decide +kernel)) hI (fun y52 f53 gf53 hy52 hI54 => ?_)
        exact And.intro mRt_i (hK _ _ _ (rg_w (c := 2) (d := 2) hy52 (by decide +kernel)) hI54)
def SPX1_zeroes (S : mSp) : Prop := ∀ (n e : Int) (f0 f : mFn) (g : mGn) (K : mKr) (x1 : Int32), cI n e f0 f g → (∀ (y : Int32) (f' : mFn) (g' : mGn), rg 1 2 y → cI n e f0 f' g' → K (some (.inl y)) f' g') → S [.inr 2, .inl x1] f g K
set_option maxRecDepth 100000 in
set_option maxHeartbeats 4000000 in
theorem sfX1_zeroes : SPX1_zeroes spX1_zeroes := by
  intro n e f0 f g K x1  hI hK
  refine ⟨rfl, fun X hX => ?_⟩
  obtain ⟨S_X1_first, k_X1_first, S_X1_second, k_X1_second, S_X0_subtractOn, k_X0_subtractOn, S_X0_add, k_X0_add, S_X1_pair, k_X1_pair, S_X1_setPair, k_X1_setPair, S_X0_signed, k_X0_signed, S_X1_multiply, k_X1_multiply, S_X1_multiplyMixed, k_X1_multiplyMixed, hX⟩ : ∃ S_X1_first, SPX1_first S_X1_first ∧ ∃ S_X1_second, SPX1_second S_X1_second ∧ ∃ S_X0_subtractOn, SPX0_subtractOn S_X0_subtractOn ∧ ∃ S_X0_add, SPX0_add S_X0_add ∧ ∃ S_X1_pair, SPX1_pair S_X1_pair ∧ ∃ S_X1_setPair, SPX1_setPair S_X1_setPair ∧ ∃ S_X0_signed, SPX0_signed S_X0_signed ∧ ∃ S_X1_multiply, SPX1_multiply S_X1_multiply ∧ ∃ S_X1_multiplyMixed, SPX1_multiplyMixed S_X1_multiplyMixed ∧ mR shC fdX1_zeroes [(113, 1, 1, 0, S_X1_first), (116, 1, 1, 0, S_X1_second), (142, 0, 2, 3, S_X0_subtractOn), (145, 0, 3, 3, S_X0_add), (149, 0, 1, 4, S_X1_pair), (152, 0, 2, 4, S_X1_setPair), (156, 1, 1, 0, S_X0_signed), (119, 0, 2, 4, S_X1_multiply), (159, 0, 1, 4, S_X1_multiplyMixed)] bsX1_zeroes (fun r f g => mRt (some .int) r ∧ K r f g) X := ⟨spX1_first, sfX1_first, spX1_second, sfX1_second, spX0_subtractOn, sfX0_subtractOn, spX0_add, sfX0_add, spX1_pair, sfX1_pair, spX1_setPair, sfX1_setPair, spX0_signed, sfX0_signed, spX1_multiply, sfX1_multiply, spX1_multiplyMixed, sfX1_multiplyMixed, hX⟩
  refine hX.1 0 _ rfl _ _ _ _ ?_
  refine k_X1_first n e f0 _ _ _ _  hI (fun y42 hy42 => ?_)
  refine k_X1_second n e f0 _ _ _ _  hI (fun y45 hy45 => ?_)
  refine And.intro (rg_in hy45 (by decide +kernel)) ?_
  refine And.intro (fun c48 => ?_) (fun c48 => ?_)
  · -- 48
    refine hX.1 1 _ rfl _ _ _ _ ?_
    refine And.intro (rg_in hy42 (by decide +kernel)) ?_
    refine k_X0_subtractOn n e f0 _ _ _ _ _  hI (fun y49 f50 gf50 hy49 hI51 => ?_)
    exact And.intro mRt_i (hK _ _ _ (rg_w (c := 1) (d := 2) (rg_c (a := 1) (b := 1) (by decide +kernel)) (by decide +kernel)) hI51)
  · -- on
    refine And.intro (fun c52 => ?_) (fun c52 => ?_)
    · -- 65
      refine hX.1 2 _ rfl _ _ _ _ ?_
      refine And.intro (rg_in hy42 (by decide +kernel)) ?_
      refine k_X0_subtractOn n e f0 _ _ _ _ _  hI (fun y53 f54 gf54 hy53 hI55 => ?_)
      refine And.intro (rg_in hy42 (by decide +kernel)) ?_
      exact And.intro mRt_i (hK _ _ _ (rg_w (c := 1) (d := 2) (rg_c (a := 1) (b := 1) (by decide +kernel)) (by decide +kernel)) (gI_a0 hI55 (by decide +kernel)))
    · -- on
      refine And.intro (fun c57 => ?_) (fun c57 => ?_)
      · -- 87
        refine hX.1 3 _ rfl _ _ _ _ ?_
        refine And.intro (rg_in hy42 (by decide +kernel)) ?_
        refine k_X0_add n e f0 _ _ _ _ _ _ (rg_w (c := 0) (d := 1) (rg_c (a := 0) (b := 0) (by decide +kernel)) (by decide +kernel)) hI (fun y58 f59 gf59 hy58 hI60 => ?_)
        refine And.intro (rg_in hy42 (by decide +kernel)) ?_
        exact And.intro mRt_i (hK _ _ _ (rg_w (c := 1) (d := 2) (rg_c (a := 1) (b := 1) (by decide +kernel)) (by decide +kernel)) (gI_a0 hI60 (by decide +kernel)))
      · -- on
        refine hX.1 4 _ rfl _ _ _ _ ?_
        refine And.intro (fun c62 => ?_) (fun c62 => ?_)
        · -- 156
          refine hX.1 5 _ rfl _ _ _ _ ?_
          refine k_X1_pair n e f0 _ _ _ _ (rg_w (c := 0) (d := 30) (show rg 0 30 _ from (rg_mul (rg_c (a := 2) (b := 2) (by decide +kernel)) (show rg 0 15 _ from (rg_andR (rg_c (a := 15) (b := 15) (by decide +kernel)) (by decide +kernel))) (by decide +kernel))) (by decide +kernel)) hI (fun y63 => ?_)
          refine k_X1_setPair n e f0 _ _ _ _ _ (rg_w (c := 0) (d := 30) (show rg 0 30 _ from (rg_mul (rg_c (a := 2) (b := 2) (by decide +kernel)) (show rg 0 15 _ from (rg_andR (rg_c (a := 15) (b := 15) (by decide +kernel)) (by decide +kernel))) (by decide +kernel))) (by decide +kernel)) hI (fun f67 gf67 hI68 => ?_)
          exact And.intro mRt_i (hK _ _ _ (rg_w (c := 1) (d := 2) (rg_c (a := 1) (b := 1) (by decide +kernel)) (by decide +kernel)) hI68)
        · -- on
          refine And.intro (fun c69 => ?_) (fun c69 => ?_)
          · -- 174
            refine hX.1 6 _ rfl _ _ _ _ ?_
            refine And.intro (rg_in (show rg 16 31 _ from (rg_add (rg_c (a := 16) (b := 16) (by decide +kernel)) (show rg 0 15 _ from (rg_andR (rg_c (a := 15) (b := 15) (by decide +kernel)) (by decide +kernel))) (by decide +kernel))) (by decide +kernel)) ?_
            refine k_X0_signed n e f0 _ _ _ _  hI (fun y70 hy70 => ?_)
            refine And.intro (rg_in (show rg 16 31 _ from (rg_add (rg_c (a := 16) (b := 16) (by decide +kernel)) (show rg 0 15 _ from (rg_andR (rg_c (a := 15) (b := 15) (by decide +kernel)) (by decide +kernel))) (by decide +kernel))) (by decide +kernel)) ?_
            refine k_X0_signed n e f0 _ _ _ _  hI (fun y73 hy73 => ?_)
            refine k_X1_multiply n e f0 _ _ _ _ _ (rg_w (c := 0) (d := 1) (rg_c (a := 0) (b := 0) (by decide +kernel)) (by decide +kernel)) hI (fun y76 f77 gf77 hy76 hI78 => ?_)
            exact And.intro mRt_i (hK _ _ _ (rg_w (c := 1) (d := 2) hy76 (by decide +kernel)) hI78)
          · -- on
            refine And.intro (fun c79 => ?_) (fun c79 => ?_)
            · -- 207
              refine hX.1 7 _ rfl _ _ _ _ ?_
              refine k_X1_multiplyMixed n e f0 _ _ _ _  hI (fun y80 f81 gf81 hy80 hI82 => ?_)
              exact And.intro mRt_i (hK _ _ _ (rg_w (c := 1) (d := 2) hy80 (by decide +kernel)) hI82)
            · -- on
              refine hX.1 8 _ rfl _ _ _ _ ?_
              exact And.intro mRt_i (hK _ _ _ (rg_w (c := 1) (d := 2) (rg_c (a := 1) (b := 1) (by decide +kernel)) (by decide +kernel)) hI)
def SPX1_ones (S : mSp) : Prop := ∀ (n e : Int) (f0 f : mFn) (g : mGn) (K : mKr) (x1 : Int32), cI n e f0 f g → (∀ (y : Int32) (f' : mFn) (g' : mGn), rg 1 3 y → cI n e f0 f' g' → K (some (.inl y)) f' g') → S [.inr 2, .inl x1] f g K
set_option maxRecDepth 100000 in
set_option maxHeartbeats 4000000 in
theorem sfX1_ones : SPX1_ones spX1_ones := by
  intro n e f0 f g K x1  hI hK
  refine ⟨rfl, fun X hX => ?_⟩
  obtain ⟨S_X1_first, k_X1_first, S_X1_second, k_X1_second, S_X1_skipIf, k_X1_skipIf, S_X0_subtract, k_X0_subtract, S_X0_carry, k_X0_carry, S_X0_add, k_X0_add, hX⟩ : ∃ S_X1_first, SPX1_first S_X1_first ∧ ∃ S_X1_second, SPX1_second S_X1_second ∧ ∃ S_X1_skipIf, SPX1_skipIf S_X1_skipIf ∧ ∃ S_X0_subtract, SPX0_subtract S_X0_subtract ∧ ∃ S_X0_carry, SPX0_carry S_X0_carry ∧ ∃ S_X0_add, SPX0_add S_X0_add ∧ mR shC fdX1_ones [(113, 1, 1, 0, S_X1_first), (116, 1, 1, 0, S_X1_second), (166, 0, 1, 4, S_X1_skipIf), (170, 0, 3, 3, S_X0_subtract), (173, 0, 0, 3, S_X0_carry), (145, 0, 3, 3, S_X0_add)] bsX1_ones (fun r f g => mRt (some .int) r ∧ K r f g) X := ⟨spX1_first, sfX1_first, spX1_second, sfX1_second, spX1_skipIf, sfX1_skipIf, spX0_subtract, sfX0_subtract, spX0_carry, sfX0_carry, spX0_add, sfX0_add, hX⟩
  have b68 : ∀ (s1 : Int32) (f : mFn) (g : mGn), rg 0 1 s1 → cI n e f0 f g → X 68 [] [.inl s1, .inr 2] f g := by
    intro s1 f g hs1 hI
    refine hX.1 3 _ rfl _ _ _ _ ?_
    refine k_X1_skipIf n e f0 _ _ _ _ (rg_w (c := 0) (d := 1) hs1 (by decide +kernel)) hI (fun y28 f29 gf29 hy28 hI30 => ?_)
    exact And.intro mRt_i (hK _ _ _ (rg_w (c := 1) (d := 3) hy28 (by decide +kernel)) hI30)
  refine hX.1 0 _ rfl _ _ _ _ ?_
  refine k_X1_first n e f0 _ _ _ _  hI (fun y31 hy31 => ?_)
  refine And.intro (rg_in hy31 (by decide +kernel)) ?_
  refine k_X1_second n e f0 _ _ _ _  hI (fun y34 hy34 => ?_)
  refine And.intro (rg_in hy34 (by decide +kernel)) ?_
  refine And.intro (fun c37 => ?_) (fun c37 => ?_)
  · -- 56
    refine hX.1 1 _ rfl _ _ _ _ ?_
    refine And.intro (fun c38 => ?_) (fun c38 => ?_)
    · -- 67
      refine hX.1 2 _ rfl _ _ _ _ ?_
      exact hX.2 _ _ [] _ _ _ mW0 (b68 _ _ _ (rg_w (c := 0) (d := 1) (rg_c (a := 0) (b := 0) (by decide +kernel)) (by decide +kernel)) hI)
    · -- on
      exact hX.2 _ _ [] _ _ _ mW0 (b68 _ _ _ (rg_w (c := 0) (d := 1) (rg_c (a := 1) (b := 1) (by decide +kernel)) (by decide +kernel)) hI)
  · -- on
    refine And.intro (fun c39 => ?_) (fun c39 => ?_)
    · -- 72
      refine hX.1 4 _ rfl _ _ _ _ ?_
      refine k_X0_subtract n e f0 _ _ _ _ _ _ (rg_w (c := 0) (d := 1) (rg_c (a := 0) (b := 0) (by decide +kernel)) (by decide +kernel)) hI (fun y40 f41 gf41 hy40 hI42 => ?_)
      exact And.intro mRt_i (hK _ _ _ (rg_w (c := 1) (d := 3) (rg_c (a := 1) (b := 1) (by decide +kernel)) (by decide +kernel)) hI42)
    · -- on
      refine And.intro (fun c43 => ?_) (fun c43 => ?_)
      · -- 86
        refine hX.1 5 _ rfl _ _ _ _ ?_
        refine k_X0_subtract n e f0 _ _ _ _ _ _ (rg_w (c := 0) (d := 1) (rg_c (a := 0) (b := 0) (by decide +kernel)) (by decide +kernel)) hI (fun y44 f45 gf45 hy44 hI46 => ?_)
        refine And.intro (rg_in hy31 (by decide +kernel)) ?_
        exact And.intro mRt_i (hK _ _ _ (rg_w (c := 1) (d := 3) (rg_c (a := 1) (b := 1) (by decide +kernel)) (by decide +kernel)) (gI_a0 hI46 (by decide +kernel)))
      · -- on
        refine hX.1 6 _ rfl _ _ _ _ ?_
        refine k_X0_carry n e f0 _ _ _   hI (fun y48 hy48 => ?_)
        refine k_X0_add n e f0 _ _ _ _ _ _ (rg_w (c := 0) (d := 1) hy48 (by decide +kernel)) hI (fun y51 f52 gf52 hy51 hI53 => ?_)
        refine And.intro (rg_in hy31 (by decide +kernel)) ?_
        exact And.intro mRt_i (hK _ _ _ (rg_w (c := 1) (d := 3) (rg_c (a := 1) (b := 1) (by decide +kernel)) (by decide +kernel)) (gI_a0 hI53 (by decide +kernel)))
def SPX1_logicOfTwo (S : mSp) : Prop := ∀ (n e : Int) (f0 f : mFn) (g : mGn) (K : mKr) (x1 : Int32), cI n e f0 f g → (∀ (y : Int32) (f' : mFn) (g' : mGn), rg 1 1 y → cI n e f0 f' g' → K (some (.inl y)) f' g') → S [.inr 2, .inl x1] f g K
set_option maxRecDepth 100000 in
set_option maxHeartbeats 4000000 in
theorem sfX1_logicOfTwo : SPX1_logicOfTwo spX1_logicOfTwo := by
  intro n e f0 f g K x1  hI hK
  refine ⟨rfl, fun X hX => ?_⟩
  obtain ⟨S_X1_first, k_X1_first, S_X1_second, k_X1_second, S_X0_logic, k_X0_logic, hX⟩ : ∃ S_X1_first, SPX1_first S_X1_first ∧ ∃ S_X1_second, SPX1_second S_X1_second ∧ ∃ S_X0_logic, SPX0_logic S_X0_logic ∧ mR shC fdX1_logicOfTwo [(113, 1, 1, 0, S_X1_first), (116, 1, 1, 0, S_X1_second), (176, 0, 1, 3, S_X0_logic)] bsX1_logicOfTwo (fun r f g => mRt (some .int) r ∧ K r f g) X := ⟨spX1_first, sfX1_first, spX1_second, sfX1_second, spX0_logic, sfX0_logic, hX⟩
  have b127 : ∀ (f : mFn) (g : mGn), cI n e f0 f g → X 127 [] [] f g := by
    intro f g  hI
    refine hX.1 5 _ rfl _ _ _ _ ?_
    exact And.intro mRt_i (hK _ _ _ (rg_w (c := 1) (d := 1) (rg_c (a := 1) (b := 1) (by decide +kernel)) (by decide +kernel)) hI)
  refine hX.1 0 _ rfl _ _ _ _ ?_
  refine k_X1_first n e f0 _ _ _ _  hI (fun y23 hy23 => ?_)
  refine k_X1_second n e f0 _ _ _ _  hI (fun y26 hy26 => ?_)
  refine And.intro (rg_in hy26 (by decide +kernel)) ?_
  refine And.intro (fun c29 => ?_) (fun c29 => ?_)
  · -- 48
    refine hX.1 1 _ rfl _ _ _ _ ?_
    refine And.intro (rg_in hy23 (by decide +kernel)) ?_
    refine k_X0_logic n e f0 _ _ _ _  hI (fun y30 f31 gf31 hI32 => ?_)
    refine And.intro (rg_in hy23 (by decide +kernel)) ?_
    exact hX.2 _ _ [] _ _ _ mW0 (b127  _ _  (gI_a0 hI32 (by decide +kernel)))
  · -- on
    refine And.intro (fun c34 => ?_) (fun c34 => ?_)
    · -- 72
      refine hX.1 2 _ rfl _ _ _ _ ?_
      refine And.intro (rg_in hy23 (by decide +kernel)) ?_
      refine k_X0_logic n e f0 _ _ _ _  hI (fun y35 f36 gf36 hI37 => ?_)
      refine And.intro (rg_in hy23 (by decide +kernel)) ?_
      exact hX.2 _ _ [] _ _ _ mW0 (b127  _ _  (gI_a0 hI37 (by decide +kernel)))
    · -- on
      refine And.intro (fun c39 => ?_) (fun c39 => ?_)
      · -- 96
        refine hX.1 3 _ rfl _ _ _ _ ?_
        refine And.intro (rg_in hy23 (by decide +kernel)) ?_
        refine k_X0_logic n e f0 _ _ _ _  hI (fun y40 f41 gf41 hI42 => ?_)
        refine And.intro (rg_in hy23 (by decide +kernel)) ?_
        exact hX.2 _ _ [] _ _ _ mW0 (b127  _ _  (gI_a0 hI42 (by decide +kernel)))
      · -- on
        refine hX.1 4 _ rfl _ _ _ _ ?_
        refine And.intro (rg_in hy23 (by decide +kernel)) ?_
        exact hX.2 _ _ [] _ _ _ mW0 (b127  _ _  (gI_a0 hI (by decide +kernel)))
def SPX1_port (S : mSp) : Prop := ∀ (n e : Int) (f0 f : mFn) (g : mGn) (K : mKr) (x1 : Int32), n + 1 ≤ 300000000 → cI n e f0 f g → (∀ (y : Int32) (f' : mFn) (g' : mGn), rg 1 1 y → cI (n + 1) e f0 f' g' → K (some (.inl y)) f' g') → S [.inr 2, .inl x1] f g K
set_option maxRecDepth 100000 in
set_option maxHeartbeats 4000000 in
theorem sfX1_port : SPX1_port spX1_port := by
  intro n e f0 f g K x1  hB hI hK
  refine ⟨rfl, fun X hX => ?_⟩
  obtain ⟨S_X1_first, k_X1_first, S_X5_store, k_X5_store, S_X5_load, k_X5_load, hX⟩ : ∃ S_X1_first, SPX1_first S_X1_first ∧ ∃ S_X5_store, SPX5_store S_X5_store ∧ ∃ S_X5_load, SPX5_load S_X5_load ∧ mR shC fdX1_port [(113, 1, 1, 0, S_X1_first), (179, 0, 2, 8, S_X5_store), (182, 0, 1, 8, S_X5_load)] bsX1_port (fun r f g => mRt (some .int) r ∧ K r f g) X := ⟨spX1_first, sfX1_first, spX5_store, sfX5_store, spX5_load, sfX5_load, hX⟩
  have b60 : ∀ (f : mFn) (g : mGn), cI (n + 1) e f0 f g → X 60 [] [] f g := by
    intro f g  hI
    refine hX.1 2 _ rfl _ _ _ _ ?_
    exact And.intro mRt_i (hK _ _ _ (rg_w (c := 1) (d := 1) (rg_c (a := 1) (b := 1) (by decide +kernel)) (by decide +kernel)) hI)
  refine hX.1 0 _ rfl _ _ _ _ ?_
  refine And.intro (fun c15 => ?_) (fun c15 => ?_)
  · -- 43
    refine hX.1 1 _ rfl _ _ _ _ ?_
    refine k_X1_first n e f0 _ _ _ _  hI (fun y16 hy16 => ?_)
    refine k_X5_load n e f0 _ _ _ _  hI (fun y19 f20 gf20 hI21 => ?_)
    refine And.intro (rg_in hy16 (by decide +kernel)) ?_
    exact hX.2 _ _ [] _ _ _ mW0 (b60  _ _  (cM (gI_a0 hI21 (by decide +kernel)) (by omega) (by omega)))
  · -- on
    refine k_X1_first n e f0 _ _ _ _  hI (fun y23 hy23 => ?_)
    refine And.intro (rg_in hy23 (by decide +kernel)) ?_
    refine k_X5_store n e f0 _ _ _ _ _  (by omega) hI (fun f27 gf27 hI28 => ?_)
    exact hX.2 _ _ [] _ _ _ mW0 (b60  _ _  hI28)
def SPX1_jumpBy (S : mSp) : Prop := ∀ (n e : Int) (f0 f : mFn) (g : mGn) (K : mKr) (x1 : Int32) (x2 : Int32), rg 2 3 x2 → cI n e f0 f g → (∀ (y : Int32) (f' : mFn) (g' : mGn), rg 2 3 y → cI n e f0 f' g' → K (some (.inl y)) f' g') → S [.inr 2, .inl x1, .inl x2] f g K
set_option maxRecDepth 100000 in
set_option maxHeartbeats 4000000 in
theorem sfX1_jumpBy : SPX1_jumpBy spX1_jumpBy := by
  intro n e f0 f g K x1 x2 hx2 hI hK
  refine ⟨rfl, fun X hX => ?_⟩
  refine hX.1 0 _ rfl _ _ _ _ ?_
  exact And.intro mRt_i (hK _ _ _ (rg_w (c := 2) (d := 3) hx2 (by decide +kernel)) (cP0 hI (by decide +kernel)))
def SPX1_loadThenMore (S : mSp) : Prop := ∀ (n e : Int) (f0 f : mFn) (g : mGn) (K : mKr) (x1 : Int32), rg 26 30 x1 → cI n e f0 f g → (∀ (y : Int32) (f' : mFn) (g' : mGn), cI n e f0 f' g' → K (some (.inl y)) f' g') → S [.inr 2, .inl x1] f g K
set_option maxRecDepth 100000 in
set_option maxHeartbeats 4000000 in
theorem sfX1_loadThenMore : SPX1_loadThenMore spX1_loadThenMore := by
  intro n e f0 f g K x1 hx1 hI hK
  refine ⟨rfl, fun X hX => ?_⟩
  obtain ⟨S_X1_pair, k_X1_pair, S_X5_load, k_X5_load, S_X1_setPair, k_X1_setPair, hX⟩ : ∃ S_X1_pair, SPX1_pair S_X1_pair ∧ ∃ S_X5_load, SPX5_load S_X5_load ∧ ∃ S_X1_setPair, SPX1_setPair S_X1_setPair ∧ mR shC fdX1_loadThenMore [(149, 0, 1, 4, S_X1_pair), (182, 0, 1, 8, S_X5_load), (152, 0, 2, 4, S_X1_setPair)] bsX1_loadThenMore (fun r f g => mRt (some .int) r ∧ K r f g) X := ⟨spX1_pair, sfX1_pair, spX5_load, sfX5_load, spX1_setPair, sfX1_setPair, hX⟩
  refine hX.1 0 _ rfl _ _ _ _ ?_
  refine k_X1_pair n e f0 _ _ _ _ (rg_w (c := 0) (d := 30) hx1 (by decide +kernel)) hI (fun y13 => ?_)
  refine k_X5_load n e f0 _ _ _ _  hI (fun y16 f17 gf17 hI18 => ?_)
  refine k_X1_pair n e f0 _ _ _ _ (rg_w (c := 0) (d := 30) hx1 (by decide +kernel)) hI18 (fun y19 => ?_)
  refine k_X1_setPair n e f0 _ _ _ _ _ (rg_w (c := 0) (d := 30) hx1 (by decide +kernel)) hI18 (fun f23 gf23 hI24 => ?_)
  exact And.intro mRt_i (hK _ _ _ hI24)
def SPX1_oneLess (S : mSp) : Prop := ∀ (n e : Int) (f0 f : mFn) (g : mGn) (K : mKr) (x1 : Int32), rg 26 30 x1 → cI n e f0 f g → (∀ (y : Int32) (f' : mFn) (g' : mGn), cI n e f0 f' g' → K (some (.inl y)) f' g') → S [.inr 2, .inl x1] f g K
set_option maxRecDepth 100000 in
set_option maxHeartbeats 4000000 in
theorem sfX1_oneLess : SPX1_oneLess spX1_oneLess := by
  intro n e f0 f g K x1 hx1 hI hK
  refine ⟨rfl, fun X hX => ?_⟩
  obtain ⟨S_X1_pair, k_X1_pair, S_X1_setPair, k_X1_setPair, hX⟩ : ∃ S_X1_pair, SPX1_pair S_X1_pair ∧ ∃ S_X1_setPair, SPX1_setPair S_X1_setPair ∧ mR shC fdX1_oneLess [(149, 0, 1, 4, S_X1_pair), (152, 0, 2, 4, S_X1_setPair)] bsX1_oneLess (fun r f g => mRt (some .int) r ∧ K r f g) X := ⟨spX1_pair, sfX1_pair, spX1_setPair, sfX1_setPair, hX⟩
  refine hX.1 0 _ rfl _ _ _ _ ?_
  refine k_X1_pair n e f0 _ _ _ _ (rg_w (c := 0) (d := 30) hx1 (by decide +kernel)) hI (fun y10 => ?_)
  refine k_X1_setPair n e f0 _ _ _ _ _ (rg_w (c := 0) (d := 30) hx1 (by decide +kernel)) hI (fun f14 gf14 hI15 => ?_)
  refine k_X1_pair n e f0 _ _ _ _ (rg_w (c := 0) (d := 30) hx1 (by decide +kernel)) hI15 (fun y16 => ?_)
  exact And.intro mRt_i (hK _ _ _ hI15)
def SPX1_loadInto (S : mSp) : Prop := ∀ (n e : Int) (f0 f : mFn) (g : mGn) (K : mKr) (x1 : Int32), cI n e f0 f g → (∀ (y : Int32) (f' : mFn) (g' : mGn), rg 1 3 y → cI n e f0 f' g' → K (some (.inl y)) f' g') → S [.inr 2, .inl x1] f g K
set_option maxRecDepth 100000 in
set_option maxHeartbeats 4000000 in
theorem sfX1_loadInto : SPX1_loadInto spX1_loadInto := by
  intro n e f0 f g K x1  hI hK
  refine ⟨rfl, fun X hX => ?_⟩
  obtain ⟨S_X1_first, k_X1_first, S_X1_nextWord, k_X1_nextWord, S_X5_load, k_X5_load, S_X1_loadThenMore, k_X1_loadThenMore, S_X1_oneLess, k_X1_oneLess, S_X1_pair, k_X1_pair, S_X3_seenByte, k_X3_seenByte, S_X1_setPair, k_X1_setPair, S_X5_pop, k_X5_pop, hX⟩ : ∃ S_X1_first, SPX1_first S_X1_first ∧ ∃ S_X1_nextWord, SPX1_nextWord S_X1_nextWord ∧ ∃ S_X5_load, SPX5_load S_X5_load ∧ ∃ S_X1_loadThenMore, SPX1_loadThenMore S_X1_loadThenMore ∧ ∃ S_X1_oneLess, SPX1_oneLess S_X1_oneLess ∧ ∃ S_X1_pair, SPX1_pair S_X1_pair ∧ ∃ S_X3_seenByte, SPX3_seenByte S_X3_seenByte ∧ ∃ S_X1_setPair, SPX1_setPair S_X1_setPair ∧ ∃ S_X5_pop, SPX5_pop S_X5_pop ∧ mR shC fdX1_loadInto [(113, 1, 1, 0, S_X1_first), (50, 0, 0, 4, S_X1_nextWord), (182, 0, 1, 8, S_X5_load), (185, 0, 1, 4, S_X1_loadThenMore), (188, 0, 1, 4, S_X1_oneLess), (149, 0, 1, 4, S_X1_pair), (191, 0, 2, 6, S_X3_seenByte), (152, 0, 2, 4, S_X1_setPair), (135, 0, 0, 8, S_X5_pop)] bsX1_loadInto (fun r f g => mRt (some .int) r ∧ K r f g) X := ⟨spX1_first, sfX1_first, spX1_nextWord, sfX1_nextWord, spX5_load, sfX5_load, spX1_loadThenMore, sfX1_loadThenMore, spX1_oneLess, sfX1_oneLess, spX1_pair, sfX1_pair, spX3_seenByte, sfX3_seenByte, spX1_setPair, sfX1_setPair, spX5_pop, sfX5_pop, hX⟩
  have b314 : ∀ (f : mFn) (g : mGn), cI n e f0 f g → X 314 [] [] f g := by
    intro f g  hI
    refine hX.1 12 _ rfl _ _ _ _ ?_
    exact And.intro mRt_i (hK _ _ _ (rg_w (c := 1) (d := 3) (rg_c (a := 1) (b := 1) (by decide +kernel)) (by decide +kernel)) hI)
  refine hX.1 0 _ rfl _ _ _ _ ?_
  refine k_X1_first n e f0 _ _ _ _  hI (fun y91 hy91 => ?_)
  refine And.intro (fun c94 => ?_) (fun c94 => ?_)
  · -- 88
    refine hX.1 1 _ rfl _ _ _ _ ?_
    refine k_X1_nextWord n e f0 _ _ _  hI (fun y95 f96 gf96 hI97 => ?_)
    refine k_X5_load n e f0 _ _ _ _  hI97 (fun y98 f99 gf99 hI100 => ?_)
    refine And.intro (rg_in hy91 (by decide +kernel)) ?_
    exact And.intro mRt_i (hK _ _ _ (rg_w (c := 1) (d := 3) (rg_c (a := 2) (b := 2) (by decide +kernel)) (by decide +kernel)) (gI_a0 hI100 (by decide +kernel)))
  · -- on
    refine And.intro (fun c102 => ?_) (fun c102 => ?_)
    · -- 107
      refine hX.1 2 _ rfl _ _ _ _ ?_
      refine k_X1_loadThenMore n e f0 _ _ _ _ (rg_w (c := 26) (d := 30) (rg_c (a := 30) (b := 30) (by decide +kernel)) (by decide +kernel)) hI (fun y103 f104 gf104 hI105 => ?_)
      refine And.intro (rg_in hy91 (by decide +kernel)) ?_
      exact And.intro mRt_i (hK _ _ _ (rg_w (c := 1) (d := 3) (rg_c (a := 2) (b := 2) (by decide +kernel)) (by decide +kernel)) (gI_a0 hI105 (by decide +kernel)))
    · -- on
      refine And.intro (fun c107 => ?_) (fun c107 => ?_)
      · -- 121
        refine hX.1 3 _ rfl _ _ _ _ ?_
        refine k_X1_oneLess n e f0 _ _ _ _ (rg_w (c := 26) (d := 30) (rg_c (a := 30) (b := 30) (by decide +kernel)) (by decide +kernel)) hI (fun y108 f109 gf109 hI110 => ?_)
        refine k_X5_load n e f0 _ _ _ _  hI110 (fun y111 f112 gf112 hI113 => ?_)
        refine And.intro (rg_in hy91 (by decide +kernel)) ?_
        exact And.intro mRt_i (hK _ _ _ (rg_w (c := 1) (d := 3) (rg_c (a := 2) (b := 2) (by decide +kernel)) (by decide +kernel)) (gI_a0 hI113 (by decide +kernel)))
      · -- on
        refine And.intro (fun c115 => ?_) (fun c115 => ?_)
        · -- 314
          exact hX.2 _ _ [] _ _ _ mW0 (b314  _ _  hI)
        · -- on
          refine And.intro (fun c116 => ?_) (fun c116 => ?_)
          · -- 142
            refine hX.1 4 _ rfl _ _ _ _ ?_
            refine k_X1_pair n e f0 _ _ _ _ (rg_w (c := 0) (d := 30) (rg_c (a := 30) (b := 30) (by decide +kernel)) (by decide +kernel)) hI (fun y117 => ?_)
            refine k_X3_seenByte n e f0 _ _ _ _ _  hI (fun y120 f121 gf121 hI122 => ?_)
            refine And.intro (rg_in hy91 (by decide +kernel)) ?_
            exact And.intro mRt_i (hK _ _ _ (rg_w (c := 1) (d := 3) (rg_c (a := 3) (b := 3) (by decide +kernel)) (by decide +kernel)) (gI_a0 hI122 (by decide +kernel)))
          · -- on
            refine And.intro (fun c124 => ?_) (fun c124 => ?_)
            · -- 167
              refine hX.1 5 _ rfl _ _ _ _ ?_
              refine k_X1_pair n e f0 _ _ _ _ (rg_w (c := 0) (d := 30) (rg_c (a := 30) (b := 30) (by decide +kernel)) (by decide +kernel)) hI (fun y125 => ?_)
              refine k_X3_seenByte n e f0 _ _ _ _ _  hI (fun y128 f129 gf129 hI130 => ?_)
              refine k_X1_pair n e f0 _ _ _ _ (rg_w (c := 0) (d := 30) (rg_c (a := 30) (b := 30) (by decide +kernel)) (by decide +kernel)) hI130 (fun y131 => ?_)
              refine k_X1_setPair n e f0 _ _ _ _ _ (rg_w (c := 0) (d := 30) (rg_c (a := 30) (b := 30) (by decide +kernel)) (by decide +kernel)) hI130 (fun f135 gf135 hI136 => ?_)
              refine And.intro (rg_in hy91 (by decide +kernel)) ?_
              exact And.intro mRt_i (hK _ _ _ (rg_w (c := 1) (d := 3) (rg_c (a := 3) (b := 3) (by decide +kernel)) (by decide +kernel)) (gI_a0 hI136 (by decide +kernel)))
            · -- on
              refine And.intro (fun c138 => ?_) (fun c138 => ?_)
              · -- 314
                exact hX.2 _ _ [] _ _ _ mW0 (b314  _ _  hI)
              · -- on
                refine And.intro (fun c139 => ?_) (fun c139 => ?_)
                · -- 314
                  exact hX.2 _ _ [] _ _ _ mW0 (b314  _ _  hI)
                · -- on
                  refine And.intro (fun c140 => ?_) (fun c140 => ?_)
                  · -- 314
                    exact hX.2 _ _ [] _ _ _ mW0 (b314  _ _  hI)
                  · -- on
                    refine And.intro (fun c141 => ?_) (fun c141 => ?_)
                    · -- 208
                      refine hX.1 6 _ rfl _ _ _ _ ?_
                      refine k_X1_loadThenMore n e f0 _ _ _ _ (rg_w (c := 26) (d := 30) (rg_c (a := 28) (b := 28) (by decide +kernel)) (by decide +kernel)) hI (fun y142 f143 gf143 hI144 => ?_)
                      refine And.intro (rg_in hy91 (by decide +kernel)) ?_
                      exact And.intro mRt_i (hK _ _ _ (rg_w (c := 1) (d := 3) (rg_c (a := 2) (b := 2) (by decide +kernel)) (by decide +kernel)) (gI_a0 hI144 (by decide +kernel)))
                    · -- on
                      refine And.intro (fun c146 => ?_) (fun c146 => ?_)
                      · -- 222
                        refine hX.1 7 _ rfl _ _ _ _ ?_
                        refine k_X1_oneLess n e f0 _ _ _ _ (rg_w (c := 26) (d := 30) (rg_c (a := 28) (b := 28) (by decide +kernel)) (by decide +kernel)) hI (fun y147 f148 gf148 hI149 => ?_)
                        refine k_X5_load n e f0 _ _ _ _  hI149 (fun y150 f151 gf151 hI152 => ?_)
                        refine And.intro (rg_in hy91 (by decide +kernel)) ?_
                        exact And.intro mRt_i (hK _ _ _ (rg_w (c := 1) (d := 3) (rg_c (a := 2) (b := 2) (by decide +kernel)) (by decide +kernel)) (gI_a0 hI152 (by decide +kernel)))
                      · -- on
                        refine And.intro (fun c154 => ?_) (fun c154 => ?_)
                        · -- 314
                          exact hX.2 _ _ [] _ _ _ mW0 (b314  _ _  hI)
                        · -- on
                          refine And.intro (fun c155 => ?_) (fun c155 => ?_)
                          · -- 243
                            refine hX.1 8 _ rfl _ _ _ _ ?_
                            refine k_X1_pair n e f0 _ _ _ _ (rg_w (c := 0) (d := 30) (rg_c (a := 26) (b := 26) (by decide +kernel)) (by decide +kernel)) hI (fun y156 => ?_)
                            refine k_X5_load n e f0 _ _ _ _  hI (fun y159 f160 gf160 hI161 => ?_)
                            refine And.intro (rg_in hy91 (by decide +kernel)) ?_
                            exact And.intro mRt_i (hK _ _ _ (rg_w (c := 1) (d := 3) (rg_c (a := 2) (b := 2) (by decide +kernel)) (by decide +kernel)) (gI_a0 hI161 (by decide +kernel)))
                          · -- on
                            refine And.intro (fun c163 => ?_) (fun c163 => ?_)
                            · -- 264
                              refine hX.1 9 _ rfl _ _ _ _ ?_
                              refine k_X1_loadThenMore n e f0 _ _ _ _ (rg_w (c := 26) (d := 30) (rg_c (a := 26) (b := 26) (by decide +kernel)) (by decide +kernel)) hI (fun y164 f165 gf165 hI166 => ?_)
                              refine And.intro (rg_in hy91 (by decide +kernel)) ?_
                              exact And.intro mRt_i (hK _ _ _ (rg_w (c := 1) (d := 3) (rg_c (a := 2) (b := 2) (by decide +kernel)) (by decide +kernel)) (gI_a0 hI166 (by decide +kernel)))
                            · -- on
                              refine And.intro (fun c168 => ?_) (fun c168 => ?_)
                              · -- 278
                                refine hX.1 10 _ rfl _ _ _ _ ?_
                                refine k_X1_oneLess n e f0 _ _ _ _ (rg_w (c := 26) (d := 30) (rg_c (a := 26) (b := 26) (by decide +kernel)) (by decide +kernel)) hI (fun y169 f170 gf170 hI171 => ?_)
                                refine k_X5_load n e f0 _ _ _ _  hI171 (fun y172 f173 gf173 hI174 => ?_)
                                refine And.intro (rg_in hy91 (by decide +kernel)) ?_
                                exact And.intro mRt_i (hK _ _ _ (rg_w (c := 1) (d := 3) (rg_c (a := 2) (b := 2) (by decide +kernel)) (by decide +kernel)) (gI_a0 hI174 (by decide +kernel)))
                              · -- on
                                refine And.intro (fun c176 => ?_) (fun c176 => ?_)
                                · -- 299
                                  refine hX.1 11 _ rfl _ _ _ _ ?_
                                  refine k_X5_pop n e f0 _ _ _  hI (fun y177 f178 gf178 hI179 => ?_)
                                  refine And.intro (rg_in hy91 (by decide +kernel)) ?_
                                  exact And.intro mRt_i (hK _ _ _ (rg_w (c := 1) (d := 3) (rg_c (a := 2) (b := 2) (by decide +kernel)) (by decide +kernel)) (gI_a0 hI179 (by decide +kernel)))
                                · -- on
                                  exact (rg_no (show rg 1 0 _ from (rg_neN (show rg 15 15 _ from (rg_neL (show rg 14 15 _ from (rg_neL (show rg 13 15 _ from (rg_neL (show rg 12 15 _ from (rg_neL (show rg 11 15 _ from (rg_neL (show rg 10 15 _ from (rg_neL (show rg 9 15 _ from (rg_neL (show rg 8 15 _ from (rg_neL (show rg 7 15 _ from (rg_neL (show rg 6 15 _ from (rg_neL (show rg 5 15 _ from (rg_neL (show rg 4 15 _ from (rg_neL (show rg 3 15 _ from (rg_neL (show rg 2 15 _ from (rg_neL (show rg 1 15 _ from (rg_neL (show rg 0 15 _ from (rg_andR (rg_c (a := 15) (b := 15) (by decide +kernel)) (by decide +kernel))) (rg_c (a := 0) (b := 0) (by decide +kernel)) c94 (by decide +kernel))) (rg_c (a := 1) (b := 1) (by decide +kernel)) c102 (by decide +kernel))) (rg_c (a := 2) (b := 2) (by decide +kernel)) c107 (by decide +kernel))) (rg_c (a := 3) (b := 3) (by decide +kernel)) c115 (by decide +kernel))) (rg_c (a := 4) (b := 4) (by decide +kernel)) c116 (by decide +kernel))) (rg_c (a := 5) (b := 5) (by decide +kernel)) c124 (by decide +kernel))) (rg_c (a := 6) (b := 6) (by decide +kernel)) c138 (by decide +kernel))) (rg_c (a := 7) (b := 7) (by decide +kernel)) c139 (by decide +kernel))) (rg_c (a := 8) (b := 8) (by decide +kernel)) c140 (by decide +kernel))) (rg_c (a := 9) (b := 9) (by decide +kernel)) c141 (by decide +kernel))) (rg_c (a := 10) (b := 10) (by decide +kernel)) c146 (by decide +kernel))) (rg_c (a := 11) (b := 11) (by decide +kernel)) c154 (by decide +kernel))) (rg_c (a := 12) (b := 12) (by decide +kernel)) c155 (by decide +kernel))) (rg_c (a := 13) (b := 13) (by decide +kernel)) c163 (by decide +kernel))) (rg_c (a := 14) (b := 14) (by decide +kernel)) c168 (by decide +kernel))) (rg_c (a := 15) (b := 15) (by decide +kernel)) c176 (by decide +kernel))) (by decide +kernel)).elim
