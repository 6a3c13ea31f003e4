def SPX1_storeThenMore (S : mSp) : Prop := ∀ (n e : Int) (f0 f : mFn) (g : mGn) (K : mKr) (x1 : Int32) (x2 : Int32), rg 26 30 x1 → n + 1 ≤ 300000000 → cI n e f0 f g → (∀ (f' : mFn) (g' : mGn), cI (n + 1) e f0 f' g' → K none f' g') → S [.inr 2, .inl x1, .inl x2] f g K
set_option maxRecDepth 100000 in
set_option maxHeartbeats 4000000 in
theorem sfX1_storeThenMore : SPX1_storeThenMore spX1_storeThenMore := by
  intro n e f0 f g K x1 x2 hx1 hB hI hK
  refine ⟨rfl, fun X hX => ?_⟩
  obtain ⟨S_X1_pair, k_X1_pair, S_X5_store, k_X5_store, S_X1_setPair, k_X1_setPair, hX⟩ : ∃ S_X1_pair, SPX1_pair S_X1_pair ∧ ∃ S_X5_store, SPX5_store S_X5_store ∧ ∃ S_X1_setPair, SPX1_setPair S_X1_setPair ∧ mR shC fdX1_storeThenMore [(149, 0, 1, 4, S_X1_pair), (179, 0, 2, 8, S_X5_store), (152, 0, 2, 4, S_X1_setPair)] bsX1_storeThenMore (fun r f g => mRt none r ∧ K r f g) X := ⟨spX1_pair, sfX1_pair, spX5_store, sfX5_store, spX1_setPair, sfX1_setPair, hX⟩
  refine hX.1 0 _ rfl _ _ _ _ ?_
  refine k_X1_pair n e f0 _ _ _ _ (rg_w (c := 0) (d := 30) hx1 (by decide +kernel)) hI (fun y13 => ?_)
  refine k_X5_store n e f0 _ _ _ _ _  (by omega) hI (fun f17 gf17 hI18 => ?_)
  refine k_X1_pair (n + 1) e f0 _ _ _ _ (rg_w (c := 0) (d := 30) hx1 (by decide +kernel)) hI18 (fun y19 => ?_)
  refine k_X1_setPair (n + 1) e f0 _ _ _ _ _ (rg_w (c := 0) (d := 30) hx1 (by decide +kernel)) hI18 (fun f23 gf23 hI24 => ?_)
  exact And.intro mRt_v (hK _ _ hI24)
def SPX1_storeFrom (S : mSp) : Prop := ∀ (n e : Int) (f0 f : mFn) (g : mGn) (K : mKr) (x1 : Int32), n + 1 ≤ 300000000 → cI n e f0 f g → (∀ (y : Int32) (f' : mFn) (g' : mGn), rg 1 2 y → cI (n + 1) e f0 f' g' → K (some (.inl y)) f' g') → S [.inr 2, .inl x1] f g K
set_option maxRecDepth 100000 in
set_option maxHeartbeats 4000000 in
theorem sfX1_storeFrom : SPX1_storeFrom spX1_storeFrom := by
  intro n e f0 f g K x1  hB hI hK
  refine ⟨rfl, fun X hX => ?_⟩
  obtain ⟨S_X1_first, k_X1_first, S_X1_nextWord, k_X1_nextWord, S_X5_store, k_X5_store, S_X1_storeThenMore, k_X1_storeThenMore, S_X1_oneLess, k_X1_oneLess, S_X1_pair, k_X1_pair, S_X5_push, k_X5_push, hX⟩ : ∃ S_X1_first, SPX1_first S_X1_first ∧ ∃ S_X1_nextWord, SPX1_nextWord S_X1_nextWord ∧ ∃ S_X5_store, SPX5_store S_X5_store ∧ ∃ S_X1_storeThenMore, SPX1_storeThenMore S_X1_storeThenMore ∧ ∃ S_X1_oneLess, SPX1_oneLess S_X1_oneLess ∧ ∃ S_X1_pair, SPX1_pair S_X1_pair ∧ ∃ S_X5_push, SPX5_push S_X5_push ∧ mR shC fdX1_storeFrom [(113, 1, 1, 0, S_X1_first), (50, 0, 0, 4, S_X1_nextWord), (179, 0, 2, 8, S_X5_store), (194, 0, 2, 4, S_X1_storeThenMore), (188, 0, 1, 4, S_X1_oneLess), (149, 0, 1, 4, S_X1_pair), (131, 0, 1, 8, S_X5_push)] bsX1_storeFrom (fun r f g => mRt (some .int) r ∧ K r f g) X := ⟨spX1_first, sfX1_first, spX1_nextWord, sfX1_nextWord, spX5_store, sfX5_store, spX1_storeThenMore, sfX1_storeThenMore, spX1_oneLess, sfX1_oneLess, spX1_pair, sfX1_pair, spX5_push, sfX5_push, hX⟩
  have b207 : ∀ (f : mFn) (g : mGn), cI n e f0 f g → X 207 [] [] f g := by
    intro f g  hI
    refine hX.1 10 _ rfl _ _ _ _ ?_
    exact And.intro mRt_i (hK _ _ _ (rg_w (c := 1) (d := 2) (rg_c (a := 1) (b := 1) (by decide +kernel)) (by decide +kernel)) (cM hI (by omega) (by omega)))
  refine hX.1 0 _ rfl _ _ _ _ ?_
  refine k_X1_first n e f0 _ _ _ _  hI (fun y62 hy62 => ?_)
  refine And.intro (rg_in hy62 (by decide +kernel)) ?_
  refine And.intro (fun c65 => ?_) (fun c65 => ?_)
  · -- 92
    refine hX.1 1 _ rfl _ _ _ _ ?_
    refine k_X1_nextWord n e f0 _ _ _  hI (fun y66 f67 gf67 hI68 => ?_)
    refine k_X5_store n e f0 _ _ _ _ _  (by omega) hI68 (fun f70 gf70 hI71 => ?_)
    exact And.intro mRt_i (hK _ _ _ (rg_w (c := 1) (d := 2) (rg_c (a := 2) (b := 2) (by decide +kernel)) (by decide +kernel)) hI71)
  · -- on
    refine And.intro (fun c72 => ?_) (fun c72 => ?_)
    · -- 106
      refine hX.1 2 _ rfl _ _ _ _ ?_
      refine k_X1_storeThenMore n e f0 _ _ _ _ _ (rg_w (c := 26) (d := 30) (rg_c (a := 30) (b := 30) (by decide +kernel)) (by decide +kernel)) (by omega) hI (fun f74 gf74 hI75 => ?_)
      exact And.intro mRt_i (hK _ _ _ (rg_w (c := 1) (d := 2) (rg_c (a := 2) (b := 2) (by decide +kernel)) (by decide +kernel)) hI75)
    · -- on
      refine And.intro (fun c76 => ?_) (fun c76 => ?_)
      · -- 115
        refine hX.1 3 _ rfl _ _ _ _ ?_
        refine k_X1_oneLess n e f0 _ _ _ _ (rg_w (c := 26) (d := 30) (rg_c (a := 30) (b := 30) (by decide +kernel)) (by decide +kernel)) hI (fun y77 f78 gf78 hI79 => ?_)
        refine k_X5_store n e f0 _ _ _ _ _  (by omega) hI79 (fun f81 gf81 hI82 => ?_)
        exact And.intro mRt_i (hK _ _ _ (rg_w (c := 1) (d := 2) (rg_c (a := 2) (b := 2) (by decide +kernel)) (by decide +kernel)) hI82)
      · -- on
        refine And.intro (fun c83 => ?_) (fun c83 => ?_)
        · -- 207
          exact hX.2 _ _ [] _ _ _ mW0 (b207  _ _  hI)
        · -- on
          refine And.intro (fun c84 => ?_) (fun c84 => ?_)
          · -- 207
            exact hX.2 _ _ [] _ _ _ mW0 (b207  _ _  hI)
          · -- on
            refine And.intro (fun c85 => ?_) (fun c85 => ?_)
            · -- 207
              exact hX.2 _ _ [] _ _ _ mW0 (b207  _ _  hI)
            · -- on
              refine And.intro (fun c86 => ?_) (fun c86 => ?_)
              · -- 207
                exact hX.2 _ _ [] _ _ _ mW0 (b207  _ _  hI)
              · -- on
                refine And.intro (fun c87 => ?_) (fun c87 => ?_)
                · -- 207
                  exact hX.2 _ _ [] _ _ _ mW0 (b207  _ _  hI)
                · -- on
                  refine And.intro (fun c88 => ?_) (fun c88 => ?_)
                  · -- 207
                    exact hX.2 _ _ [] _ _ _ mW0 (b207  _ _  hI)
                  · -- on
                    refine And.intro (fun c89 => ?_) (fun c89 => ?_)
                    · -- 131
                      refine hX.1 4 _ rfl _ _ _ _ ?_
                      refine k_X1_storeThenMore n e f0 _ _ _ _ _ (rg_w (c := 26) (d := 30) (rg_c (a := 28) (b := 28) (by decide +kernel)) (by decide +kernel)) (by omega) hI (fun f91 gf91 hI92 => ?_)
                      exact And.intro mRt_i (hK _ _ _ (rg_w (c := 1) (d := 2) (rg_c (a := 2) (b := 2) (by decide +kernel)) (by decide +kernel)) hI92)
                    · -- on
                      refine And.intro (fun c93 => ?_) (fun c93 => ?_)
                      · -- 140
                        refine hX.1 5 _ rfl _ _ _ _ ?_
                        refine k_X1_oneLess n e f0 _ _ _ _ (rg_w (c := 26) (d := 30) (rg_c (a := 28) (b := 28) (by decide +kernel)) (by decide +kernel)) hI (fun y94 f95 gf95 hI96 => ?_)
                        refine k_X5_store n e f0 _ _ _ _ _  (by omega) hI96 (fun f98 gf98 hI99 => ?_)
                        exact And.intro mRt_i (hK _ _ _ (rg_w (c := 1) (d := 2) (rg_c (a := 2) (b := 2) (by decide +kernel)) (by decide +kernel)) hI99)
                      · -- on
                        refine And.intro (fun c100 => ?_) (fun c100 => ?_)
                        · -- 207
                          exact hX.2 _ _ [] _ _ _ mW0 (b207  _ _  hI)
                        · -- on
                          refine And.intro (fun c101 => ?_) (fun c101 => ?_)
                          · -- 156
                            refine hX.1 6 _ rfl _ _ _ _ ?_
                            refine k_X1_pair n e f0 _ _ _ _ (rg_w (c := 0) (d := 30) (rg_c (a := 26) (b := 26) (by decide +kernel)) (by decide +kernel)) hI (fun y102 => ?_)
                            refine k_X5_store n e f0 _ _ _ _ _  (by omega) hI (fun f106 gf106 hI107 => ?_)
                            exact And.intro mRt_i (hK _ _ _ (rg_w (c := 1) (d := 2) (rg_c (a := 2) (b := 2) (by decide +kernel)) (by decide +kernel)) hI107)
                          · -- on
                            refine And.intro (fun c108 => ?_) (fun c108 => ?_)
                            · -- 172
                              refine hX.1 7 _ rfl _ _ _ _ ?_
                              refine k_X1_storeThenMore n e f0 _ _ _ _ _ (rg_w (c := 26) (d := 30) (rg_c (a := 26) (b := 26) (by decide +kernel)) (by decide +kernel)) (by omega) hI (fun f110 gf110 hI111 => ?_)
                              exact And.intro mRt_i (hK _ _ _ (rg_w (c := 1) (d := 2) (rg_c (a := 2) (b := 2) (by decide +kernel)) (by decide +kernel)) hI111)
                            · -- on
                              refine And.intro (fun c112 => ?_) (fun c112 => ?_)
                              · -- 181
                                refine hX.1 8 _ rfl _ _ _ _ ?_
                                refine k_X1_oneLess n e f0 _ _ _ _ (rg_w (c := 26) (d := 30) (rg_c (a := 26) (b := 26) (by decide +kernel)) (by decide +kernel)) hI (fun y113 f114 gf114 hI115 => ?_)
                                refine k_X5_store n e f0 _ _ _ _ _  (by omega) hI115 (fun f117 gf117 hI118 => ?_)
                                exact And.intro mRt_i (hK _ _ _ (rg_w (c := 1) (d := 2) (rg_c (a := 2) (b := 2) (by decide +kernel)) (by decide +kernel)) hI118)
                              · -- on
                                refine And.intro (fun c119 => ?_) (fun c119 => ?_)
                                · -- 197
                                  refine hX.1 9 _ rfl _ _ _ _ ?_
                                  refine k_X5_push n e f0 _ _ _ _  (by omega) hI (fun f121 gf121 hI122 => ?_)
                                  exact And.intro mRt_i (hK _ _ _ (rg_w (c := 1) (d := 2) (rg_c (a := 2) (b := 2) (by decide +kernel)) (by decide +kernel)) hI122)
                                · -- on
                                  exact (rg_no (show rg 1 0 _ from (rg_neN (show rg 15 15 _ from (rg_neL (show rg 14 15 _ from (rg_neL (show rg 13 15 _ from (rg_neL (show rg 12 15 _ from (rg_neL (show rg 11 15 _ from (rg_neL (show rg 10 15 _ from (rg_neL (show rg 9 15 _ from (rg_neL (show rg 8 15 _ from (rg_neL (show rg 7 15 _ from (rg_neL (show rg 6 15 _ from (rg_neL (show rg 5 15 _ from (rg_neL (show rg 4 15 _ from (rg_neL (show rg 3 15 _ from (rg_neL (show rg 2 15 _ from (rg_neL (show rg 1 15 _ from (rg_neL (show rg 0 15 _ from (rg_andR (rg_c (a := 15) (b := 15) (by decide +kernel)) (by decide +kernel))) (rg_c (a := 0) (b := 0) (by decide +kernel)) c65 (by decide +kernel))) (rg_c (a := 1) (b := 1) (by decide +kernel)) c72 (by decide +kernel))) (rg_c (a := 2) (b := 2) (by decide +kernel)) c76 (by decide +kernel))) (rg_c (a := 3) (b := 3) (by decide +kernel)) c83 (by decide +kernel))) (rg_c (a := 4) (b := 4) (by decide +kernel)) c84 (by decide +kernel))) (rg_c (a := 5) (b := 5) (by decide +kernel)) c85 (by decide +kernel))) (rg_c (a := 6) (b := 6) (by decide +kernel)) c86 (by decide +kernel))) (rg_c (a := 7) (b := 7) (by decide +kernel)) c87 (by decide +kernel))) (rg_c (a := 8) (b := 8) (by decide +kernel)) c88 (by decide +kernel))) (rg_c (a := 9) (b := 9) (by decide +kernel)) c89 (by decide +kernel))) (rg_c (a := 10) (b := 10) (by decide +kernel)) c93 (by decide +kernel))) (rg_c (a := 11) (b := 11) (by decide +kernel)) c100 (by decide +kernel))) (rg_c (a := 12) (b := 12) (by decide +kernel)) c101 (by decide +kernel))) (rg_c (a := 13) (b := 13) (by decide +kernel)) c108 (by decide +kernel))) (rg_c (a := 14) (b := 14) (by decide +kernel)) c112 (by decide +kernel))) (rg_c (a := 15) (b := 15) (by decide +kernel)) c119 (by decide +kernel))) (by decide +kernel)).elim
def SPX1_toNext (S : mSp) : Prop := ∀ (n e : Int) (f0 f : mFn) (g : mGn) (K : mKr) (x1 : Int32), n + 2 ≤ 300000000 → cI n e f0 f g → (∀ (y : Int32) (f' : mFn) (g' : mGn), rg 3 4 y → cI (n + 2) e f0 f' g' → K (some (.inl y)) f' g') → S [.inr 2, .inl x1] f g K
set_option maxRecDepth 100000 in
set_option maxHeartbeats 4000000 in
theorem sfX1_toNext : SPX1_toNext spX1_toNext := by
  intro n e f0 f g K x1  hB hI hK
  refine ⟨rfl, fun X hX => ?_⟩
  obtain ⟨S_X1_nextWord, k_X1_nextWord, S_X1_pushPc, k_X1_pushPc, hX⟩ : ∃ S_X1_nextWord, SPX1_nextWord S_X1_nextWord ∧ ∃ S_X1_pushPc, SPX1_pushPc S_X1_pushPc ∧ mR shC fdX1_toNext [(50, 0, 0, 4, S_X1_nextWord), (44, 0, 0, 4, S_X1_pushPc)] bsX1_toNext (fun r f g => mRt (some .int) r ∧ K r f g) X := ⟨spX1_nextWord, sfX1_nextWord, spX1_pushPc, sfX1_pushPc, hX⟩
  have b43 : ∀ (s0 : Int32) (f : mFn) (g : mGn), rg 3 4 s0 → cI (n + 2) e f0 f g → X 43 [] [.inl s0] f g := by
    intro s0 f g hs0 hI
    refine hX.1 5 _ rfl _ _ _ _ ?_
    exact And.intro mRt_i (hK _ _ _ (rg_w (c := 3) (d := 4) hs0 (by decide +kernel)) hI)
  have b29 : ∀ (a2 : Int32) (a3 : Int32) (f : mFn) (g : mGn), rg 0 1 a2 → rg 0 2047 a3 → cI (n + 2) e f0 f g → X 29 [(0, .inr 2), (2, .inl a2), (3, .inl a3)] [] f g := by
    intro a2 a3 f g ha2 ha3 hI
    refine hX.1 3 _ rfl _ _ _ _ ?_
    refine And.intro (fun c12 => ?_) (fun c12 => ?_)
    · -- 42
      refine hX.1 4 _ rfl _ _ _ _ ?_
      exact hX.2 _ _ [] _ _ _ mW0 (b43 _ _ _ (rg_w (c := 3) (d := 4) (rg_c (a := 3) (b := 3) (by decide +kernel)) (by decide +kernel)) (cP0 hI (by decide +kernel)))
    · -- on
      exact hX.2 _ _ [] _ _ _ mW0 (b43 _ _ _ (rg_w (c := 3) (d := 4) (rg_c (a := 4) (b := 4) (by decide +kernel)) (by decide +kernel)) (cP0 hI (by decide +kernel)))
  have b11 : ∀ (s0 : Int32) (f : mFn) (g : mGn), rg 0 1 s0 → cI n e f0 f g → X 11 [(0, .inr 2)] [.inl s0] f g := by
    intro s0 f g hs0 hI
    refine hX.1 2 _ rfl _ _ _ _ ?_
    refine k_X1_nextWord n e f0 _ _ _  hI (fun y13 f14 gf14 hI15 => ?_)
    refine And.intro (fun c16 => ?_) (fun c16 => ?_)
    · -- 29
      exact hX.2 _ _ [(0, .inr 2), (2, .inl _), (3, .inl _)] _ _ _ (mWc rfl (mWc rfl (mWc rfl mW0))) (b29 _ _ _ _ (rg_w (c := 0) (d := 1) (show rg 0 0 _ from (rg_eq (rg_c (a := 0) (b := 0) (by decide +kernel)) c16)) (by decide +kernel)) (rg_w (c := 0) (d := 2047) (show rg 0 2047 _ from (rg_andR (rg_c (a := 2047) (b := 2047) (by decide +kernel)) (by decide +kernel))) (by decide +kernel)) (cM hI15 (by omega) (by omega)))
    · -- on
      refine k_X1_pushPc n e f0 _ _ _   (by omega) hI15 (fun f18 gf18 hI19 => ?_)
      exact hX.2 _ _ [(0, .inr 2), (2, .inl _), (3, .inl _)] _ _ _ (mWc rfl (mWc rfl (mWc rfl mW0))) (b29 _ _ _ _ (rg_w (c := 0) (d := 1) (show rg 1 1 _ from (rg_neL hs0 (rg_c (a := 0) (b := 0) (by decide +kernel)) c16 (by decide +kernel))) (by decide +kernel)) (rg_w (c := 0) (d := 2047) (show rg 0 2047 _ from (rg_andR (rg_c (a := 2047) (b := 2047) (by decide +kernel)) (by decide +kernel))) (by decide +kernel)) hI19)
  refine hX.1 0 _ rfl _ _ _ _ ?_
  refine And.intro (fun c20 => ?_) (fun c20 => ?_)
  · -- 10
    refine hX.1 1 _ rfl _ _ _ _ ?_
    exact hX.2 _ _ [(0, .inr 2)] _ _ _ (mWc rfl mW0) (b11 _ _ _ (rg_w (c := 0) (d := 1) (rg_c (a := 0) (b := 0) (by decide +kernel)) (by decide +kernel)) hI)
  · -- on
    exact hX.2 _ _ [(0, .inr 2)] _ _ _ (mWc rfl mW0) (b11 _ _ _ (rg_w (c := 0) (d := 1) (rg_c (a := 1) (b := 1) (by decide +kernel)) (by decide +kernel)) hI)
def SPX1_isControl (S : mSp) : Prop := ∀ (n e : Int) (f0 f : mFn) (g : mGn) (K : mKr) (x0 : Int32), cI n e f0 f g → (∀ (y : Int32), rg 0 1 y → K (some (.inl y)) f g) → S [.inl x0] f g K
set_option maxRecDepth 100000 in
set_option maxHeartbeats 4000000 in
theorem sfX1_isControl : SPX1_isControl spX1_isControl := by
  intro n e f0 f g K x0  hI hK
  refine ⟨rfl, fun X hX => ?_⟩
  have b23 : ∀ (s0 : Int32), rg 0 1 s0 → X 23 [] [.inl s0] f g := by
    intro s0 hs0
    refine hX.1 3 _ rfl _ _ _ _ ?_
    exact And.intro (mRt_z (rg_01 hs0 (by decide +kernel))) (hK _ (rg_w (c := 0) (d := 1) hs0 (by decide +kernel)) )
  have b18 : X 18 [] [] f g := by
    refine hX.1 1 _ rfl _ _ _ _ ?_
    exact hX.2 _ _ [] _ _ _ mW0 (b23 _ (rg_w (c := 0) (d := 1) (rg_c (a := 1) (b := 1) (by decide +kernel)) (by decide +kernel)))
  refine hX.1 0 _ rfl _ _ _ _ ?_
  refine And.intro (fun c3 => ?_) (fun c3 => ?_)
  · -- 18
    exact hX.2 _ _ [] _ _ _ mW0 (b18  )
  · -- on
    refine And.intro (fun c4 => ?_) (fun c4 => ?_)
    · -- 22
      refine hX.1 2 _ rfl _ _ _ _ ?_
      exact hX.2 _ _ [] _ _ _ mW0 (b23 _ (rg_w (c := 0) (d := 1) (rg_c (a := 0) (b := 0) (by decide +kernel)) (by decide +kernel)))
    · -- on
      exact hX.2 _ _ [] _ _ _ mW0 (b18  )
def SPX1_ofOne (S : mSp) : Prop := ∀ (n e : Int) (f0 f : mFn) (g : mGn) (K : mKr) (x1 : Int32), cI n e f0 f g → (∀ (y : Int32) (f' : mFn) (g' : mGn), rg 1 1 y → cI n e f0 f' g' → K (some (.inl y)) f' g') → S [.inr 2, .inl x1] f g K
set_option maxRecDepth 100000 in
set_option maxHeartbeats 4000000 in
theorem sfX1_ofOne : SPX1_ofOne spX1_ofOne := by
  intro n e f0 f g K x1  hI hK
  refine ⟨rfl, fun X hX => ?_⟩
  obtain ⟨S_X1_first, k_X1_first, S_X0_invert, k_X0_invert, S_X0_subtract, k_X0_subtract, S_X0_count, k_X0_count, S_X0_shiftRight, k_X0_shiftRight, S_X0_carry, k_X0_carry, hX⟩ : ∃ S_X1_first, SPX1_first S_X1_first ∧ ∃ S_X0_invert, SPX0_invert S_X0_invert ∧ ∃ S_X0_subtract, SPX0_subtract S_X0_subtract ∧ ∃ S_X0_count, SPX0_count S_X0_count ∧ ∃ S_X0_shiftRight, SPX0_shiftRight S_X0_shiftRight ∧ ∃ S_X0_carry, SPX0_carry S_X0_carry ∧ mR shC fdX1_ofOne [(113, 1, 1, 0, S_X1_first), (197, 0, 1, 3, S_X0_invert), (170, 0, 3, 3, S_X0_subtract), (200, 0, 3, 3, S_X0_count), (203, 0, 2, 3, S_X0_shiftRight), (173, 0, 0, 3, S_X0_carry)] bsX1_ofOne (fun r f g => mRt (some .int) r ∧ K r f g) X := ⟨spX1_first, sfX1_first, spX0_invert, sfX0_invert, spX0_subtract, sfX0_subtract, spX0_count, sfX0_count, spX0_shiftRight, sfX0_shiftRight, spX0_carry, sfX0_carry, hX⟩
  have b235 : ∀ (f : mFn) (g : mGn), cI n e f0 f g → X 235 [] [] f g := by
    intro f g  hI
    refine hX.1 9 _ rfl _ _ _ _ ?_
    exact And.intro mRt_i (hK _ _ _ (rg_w (c := 1) (d := 1) (rg_c (a := 1) (b := 1) (by decide +kernel)) (by decide +kernel)) hI)
  refine hX.1 0 _ rfl _ _ _ _ ?_
  refine k_X1_first n e f0 _ _ _ _  hI (fun y47 hy47 => ?_)
  refine And.intro (rg_in hy47 (by decide +kernel)) ?_
  refine And.intro (fun c50 => ?_) (fun c50 => ?_)
  · -- 76
    refine hX.1 1 _ rfl _ _ _ _ ?_
    refine k_X0_invert n e f0 _ _ _ _  hI (fun y51 f52 gf52 hI53 => ?_)
    refine And.intro (rg_in hy47 (by decide +kernel)) ?_
    exact hX.2 _ _ [] _ _ _ mW0 (b235  _ _  (gI_a0 hI53 (by decide +kernel)))
  · -- on
    refine And.intro (fun c55 => ?_) (fun c55 => ?_)
    · -- 93
      refine hX.1 2 _ rfl _ _ _ _ ?_
      refine k_X0_subtract n e f0 _ _ _ _ _ _ (rg_w (c := 0) (d := 1) (rg_c (a := 0) (b := 0) (by decide +kernel)) (by decide +kernel)) hI (fun y56 f57 gf57 hy56 hI58 => ?_)
      refine And.intro (rg_in hy47 (by decide +kernel)) ?_
      exact hX.2 _ _ [] _ _ _ mW0 (b235  _ _  (gI_a0 hI58 (by decide +kernel)))
    · -- on
      refine And.intro (fun c60 => ?_) (fun c60 => ?_)
      · -- 112
        refine hX.1 3 _ rfl _ _ _ _ ?_
        refine And.intro (rg_in hy47 (by decide +kernel)) ?_
        exact hX.2 _ _ [] _ _ _ mW0 (b235  _ _  (gI_a0 hI (by decide +kernel)))
      · -- on
        refine And.intro (fun c62 => ?_) (fun c62 => ?_)
        · -- 131
          refine hX.1 4 _ rfl _ _ _ _ ?_
          refine k_X0_count n e f0 _ _ _ _ _ _ (rg_w (c := (-1)) (d := 1) (rg_c (a := 1) (b := 1) (by decide +kernel)) (by decide +kernel)) (rg_w (c := 127) (d := 128) (rg_c (a := 128) (b := 128) (by decide +kernel)) (by decide +kernel)) hI (fun y63 f64 gf64 hy63 hI65 => ?_)
          refine And.intro (rg_in hy47 (by decide +kernel)) ?_
          exact hX.2 _ _ [] _ _ _ mW0 (b235  _ _  (gI_a0 hI65 (by decide +kernel)))
        · -- on
          refine And.intro (fun c67 => ?_) (fun c67 => ?_)
          · -- 235
            exact hX.2 _ _ [] _ _ _ mW0 (b235  _ _  hI)
          · -- on
            refine And.intro (fun c68 => ?_) (fun c68 => ?_)
            · -- 152
              refine hX.1 5 _ rfl _ _ _ _ ?_
              refine k_X0_shiftRight n e f0 _ _ _ _ _ (rg_w (c := (-16777216)) (d := 16777215) (show rg (-16777216) 16777215 _ from (rg_shrK 7 (rg_all _) (by decide +kernel) (by decide +kernel))) (by decide +kernel)) hI (fun y69 f70 gf70 hI71 => ?_)
              refine And.intro (rg_in hy47 (by decide +kernel)) ?_
              exact hX.2 _ _ [] _ _ _ mW0 (b235  _ _  (gI_a0 hI71 (by decide +kernel)))
            · -- on
              refine And.intro (fun c73 => ?_) (fun c73 => ?_)
              · -- 173
                refine hX.1 6 _ rfl _ _ _ _ ?_
                refine k_X0_shiftRight n e f0 _ _ _ _ _ (rg_w (c := (-16777216)) (d := 16777215) (rg_c (a := 0) (b := 0) (by decide +kernel)) (by decide +kernel)) hI (fun y74 f75 gf75 hI76 => ?_)
                refine And.intro (rg_in hy47 (by decide +kernel)) ?_
                exact hX.2 _ _ [] _ _ _ mW0 (b235  _ _  (gI_a0 hI76 (by decide +kernel)))
              · -- on
                refine And.intro (fun c78 => ?_) (fun c78 => ?_)
                · -- 191
                  refine hX.1 7 _ rfl _ _ _ _ ?_
                  refine k_X0_carry n e f0 _ _ _   hI (fun y79 hy79 => ?_)
                  refine k_X0_shiftRight n e f0 _ _ _ _ _ (rg_w (c := (-16777216)) (d := 16777215) hy79 (by decide +kernel)) hI (fun y82 f83 gf83 hI84 => ?_)
                  refine And.intro (rg_in hy47 (by decide +kernel)) ?_
                  exact hX.2 _ _ [] _ _ _ mW0 (b235  _ _  (gI_a0 hI84 (by decide +kernel)))
                · -- on
                  refine And.intro (fun c86 => ?_) (fun c86 => ?_)
                  · -- 235
                    exact hX.2 _ _ [] _ _ _ mW0 (b235  _ _  hI)
                  · -- on
                    refine And.intro (fun c87 => ?_) (fun c87 => ?_)
                    · -- 235
                      exact hX.2 _ _ [] _ _ _ mW0 (b235  _ _  hI)
                    · -- on
                      refine And.intro (fun c88 => ?_) (fun c88 => ?_)
                      · -- 215
                        refine hX.1 8 _ rfl _ _ _ _ ?_
                        refine k_X0_count n e f0 _ _ _ _ _ _ (rg_w (c := (-1)) (d := 1) (rg_c (a := (-1)) (b := (-1)) (by decide +kernel)) (by decide +kernel)) (rg_w (c := 127) (d := 128) (rg_c (a := 127) (b := 127) (by decide +kernel)) (by decide +kernel)) hI (fun y89 f90 gf90 hy89 hI91 => ?_)
                        refine And.intro (rg_in hy47 (by decide +kernel)) ?_
                        exact hX.2 _ _ [] _ _ _ mW0 (b235  _ _  (gI_a0 hI91 (by decide +kernel)))
                      · -- on
                        exact hX.2 _ _ [] _ _ _ mW0 (b235  _ _  hI)
def SPX1_ofPair (S : mSp) : Prop := ∀ (n e : Int) (f0 f : mFn) (g : mGn) (K : mKr) (x1 : Int32), cI n e f0 f g → (∀ (y : Int32) (f' : mFn) (g' : mGn), rg 2 2 y → cI n e f0 f' g' → K (some (.inl y)) f' g') → S [.inr 2, .inl x1] f g K
set_option maxRecDepth 100000 in
set_option maxHeartbeats 4000000 in
theorem sfX1_ofPair : SPX1_ofPair spX1_ofPair := by
  intro n e f0 f g K x1  hI hK
  refine ⟨rfl, fun X hX => ?_⟩
  obtain ⟨S_X1_pair, k_X1_pair, S_X0_addToPair, k_X0_addToPair, S_X0_subtractFromPair, k_X0_subtractFromPair, S_X1_setPair, k_X1_setPair, hX⟩ : ∃ S_X1_pair, SPX1_pair S_X1_pair ∧ ∃ S_X0_addToPair, SPX0_addToPair S_X0_addToPair ∧ ∃ S_X0_subtractFromPair, SPX0_subtractFromPair S_X0_subtractFromPair ∧ ∃ S_X1_setPair, SPX1_setPair S_X1_setPair ∧ mR shC fdX1_ofPair [(149, 0, 1, 4, S_X1_pair), (225, 0, 2, 3, S_X0_addToPair), (228, 0, 2, 3, S_X0_subtractFromPair), (152, 0, 2, 4, S_X1_setPair)] bsX1_ofPair (fun r f g => mRt (some .int) r ∧ K r f g) X := ⟨spX1_pair, sfX1_pair, spX0_addToPair, sfX0_addToPair, spX0_subtractFromPair, sfX0_subtractFromPair, spX1_setPair, sfX1_setPair, hX⟩
  have b74 : ∀ (s1 : Int32) (s2 : Int32) (f : mFn) (g : mGn), rg 24 30 s1 → rg 0 65535 s2 → cI n e f0 f g → X 74 [] [.inl s2, .inl s1, .inr 2] f g := by
    intro s1 s2 f g hs1 hs2 hI
    refine hX.1 4 _ rfl _ _ _ _ ?_
    refine k_X1_setPair n e f0 _ _ _ _ _ (rg_w (c := 0) (d := 30) hs1 (by decide +kernel)) hI (fun f19 gf19 hI20 => ?_)
    exact And.intro mRt_i (hK _ _ _ (rg_w (c := 2) (d := 2) (rg_c (a := 2) (b := 2) (by decide +kernel)) (by decide +kernel)) hI20)
  have b36 : ∀ (a2 : Int32) (a3 : Int32) (s0 : Int32) (f : mFn) (g : mGn), rg 24 30 a2 → rg 0 63 a3 → rg 0 1 s0 → cI n e f0 f g → X 36 [(0, .inr 2), (2, .inl a2), (3, .inl a3)] [.inl s0] f g := by
    intro a2 a3 s0 f g ha2 ha3 hs0 hI
    refine hX.1 2 _ rfl _ _ _ _ ?_
    refine And.intro (fun c21 => ?_) (fun c21 => ?_)
    · -- 61
      refine hX.1 3 _ rfl _ _ _ _ ?_
      refine k_X1_pair n e f0 _ _ _ _ (rg_w (c := 0) (d := 30) ha2 (by decide +kernel)) hI (fun y22 => ?_)
      refine k_X0_subtractFromPair n e f0 _ _ _ _ _ (rg_w (c := 0) (d := 63) ha3 (by decide +kernel)) hI (fun y25 f26 gf26 hy25 hI27 => ?_)
      exact hX.2 _ _ [] _ _ _ mW0 (b74 _ _ _ _ (rg_w (c := 24) (d := 30) ha2 (by decide +kernel)) (rg_w (c := 0) (d := 65535) hy25 (by decide +kernel)) hI27)
    · -- on
      refine k_X1_pair n e f0 _ _ _ _ (rg_w (c := 0) (d := 30) ha2 (by decide +kernel)) hI (fun y28 => ?_)
      refine k_X0_addToPair n e f0 _ _ _ _ _ (rg_w (c := 0) (d := 63) ha3 (by decide +kernel)) hI (fun y31 f32 gf32 hy31 hI33 => ?_)
      exact hX.2 _ _ [] _ _ _ mW0 (b74 _ _ _ _ (rg_w (c := 24) (d := 30) ha2 (by decide +kernel)) (rg_w (c := 0) (d := 65535) hy31 (by decide +kernel)) hI33)
  refine hX.1 0 _ rfl _ _ _ _ ?_
  refine And.intro (fun c34 => ?_) (fun c34 => ?_)
  · -- 35
    refine hX.1 1 _ rfl _ _ _ _ ?_
    exact hX.2 _ _ [(0, .inr 2), (2, .inl _), (3, .inl _)] _ _ _ (mWc rfl (mWc rfl (mWc rfl mW0))) (b36 _ _ _ _ _ (rg_w (c := 24) (d := 30) (show rg 24 30 _ from (rg_add (rg_c (a := 24) (b := 24) (by decide +kernel)) (show rg 0 6 _ from (rg_mul (rg_c (a := 2) (b := 2) (by decide +kernel)) (show rg 0 3 _ from (rg_andR (rg_c (a := 3) (b := 3) (by decide +kernel)) (by decide +kernel))) (by decide +kernel))) (by decide +kernel))) (by decide +kernel)) (rg_w (c := 0) (d := 63) (show rg 0 63 _ from (rg_or (k := 6) (show rg 0 48 _ from (rg_andR (rg_c (a := 48) (b := 48) (by decide +kernel)) (by decide +kernel))) (show rg 0 15 _ from (rg_andR (rg_c (a := 15) (b := 15) (by decide +kernel)) (by decide +kernel))) (by decide +kernel))) (by decide +kernel)) (rg_w (c := 0) (d := 1) (rg_c (a := 0) (b := 0) (by decide +kernel)) (by decide +kernel)) hI)
  · -- on
    exact hX.2 _ _ [(0, .inr 2), (2, .inl _), (3, .inl _)] _ _ _ (mWc rfl (mWc rfl (mWc rfl mW0))) (b36 _ _ _ _ _ (rg_w (c := 24) (d := 30) (show rg 24 30 _ from (rg_add (rg_c (a := 24) (b := 24) (by decide +kernel)) (show rg 0 6 _ from (rg_mul (rg_c (a := 2) (b := 2) (by decide +kernel)) (show rg 0 3 _ from (rg_andR (rg_c (a := 3) (b := 3) (by decide +kernel)) (by decide +kernel))) (by decide +kernel))) (by decide +kernel))) (by decide +kernel)) (rg_w (c := 0) (d := 63) (show rg 0 63 _ from (rg_or (k := 6) (show rg 0 48 _ from (rg_andR (rg_c (a := 48) (b := 48) (by decide +kernel)) (by decide +kernel))) (show rg 0 15 _ from (rg_andR (rg_c (a := 15) (b := 15) (by decide +kernel)) (by decide +kernel))) (by decide +kernel))) (by decide +kernel)) (rg_w (c := 0) (d := 1) (rg_c (a := 1) (b := 1) (by decide +kernel)) (by decide +kernel)) hI)
def SPX1_portBit (S : mSp) : Prop := ∀ (n e : Int) (f0 f : mFn) (g : mGn) (K : mKr) (x1 : Int32), n + 1 ≤ 300000000 → cI n e f0 f g → (∀ (y : Int32) (f' : mFn) (g' : mGn), rg 1 3 y → cI (n + 1) e f0 f' g' → K (some (.inl y)) f' g') → S [.inr 2, .inl x1] f g K
set_option maxRecDepth 100000 in
set_option maxHeartbeats 4000000 in
theorem sfX1_portBit : SPX1_portBit spX1_portBit := by
  intro n e f0 f g K x1  hB hI hK
  refine ⟨rfl, fun X hX => ?_⟩
  obtain ⟨S_X5_load, k_X5_load, S_X1_skipIf, k_X1_skipIf, S_X5_store, k_X5_store, hX⟩ : ∃ S_X5_load, SPX5_load S_X5_load ∧ ∃ S_X1_skipIf, SPX1_skipIf S_X1_skipIf ∧ ∃ S_X5_store, SPX5_store S_X5_store ∧ mR shC fdX1_portBit [(182, 0, 1, 8, S_X5_load), (166, 0, 1, 4, S_X1_skipIf), (179, 0, 2, 8, S_X5_store)] bsX1_portBit (fun r f g => mRt (some .int) r ∧ K r f g) X := ⟨spX5_load, sfX5_load, spX1_skipIf, sfX1_skipIf, spX5_store, sfX5_store, hX⟩
  have b73 : ∀ (s1 : Int32) (f : mFn) (g : mGn), rg 0 1 s1 → cI n e f0 f g → X 73 [] [.inl s1, .inr 2] f g := by
    intro s1 f g hs1 hI
    refine hX.1 6 _ rfl _ _ _ _ ?_
    refine k_X1_skipIf n e f0 _ _ _ _ (rg_w (c := 0) (d := 1) hs1 (by decide +kernel)) hI (fun y22 f23 gf23 hy22 hI24 => ?_)
    exact And.intro mRt_i (hK _ _ _ (rg_w (c := 1) (d := 3) hy22 (by decide +kernel)) (cM hI24 (by omega) (by omega)))
  have b63 : ∀ (a4 : Int32) (s1 : Int32) (f : mFn) (g : mGn), rg 0 1 a4 → rg 0 1 s1 → cI n e f0 f g → X 63 [(4, .inl a4)] [.inl s1, .inr 2] f g := by
    intro a4 s1 f g ha4 hs1 hI
    refine hX.1 4 _ rfl _ _ _ _ ?_
    refine And.intro (fun c25 => ?_) (fun c25 => ?_)
    · -- 72
      refine hX.1 5 _ rfl _ _ _ _ ?_
      exact hX.2 _ _ [] _ _ _ mW0 (b73 _ _ _ (rg_w (c := 0) (d := 1) (rg_c (a := 0) (b := 0) (by decide +kernel)) (by decide +kernel)) hI)
    · -- on
      exact hX.2 _ _ [] _ _ _ mW0 (b73 _ _ _ (rg_w (c := 0) (d := 1) (rg_c (a := 1) (b := 1) (by decide +kernel)) (by decide +kernel)) hI)
  have b144 : ∀ (f : mFn) (g : mGn), cI (n + 1) e f0 f g → X 144 [] [] f g := by
    intro f g  hI
    refine hX.1 14 _ rfl _ _ _ _ ?_
    exact And.intro mRt_i (hK _ _ _ (rg_w (c := 1) (d := 3) (rg_c (a := 2) (b := 2) (by decide +kernel)) (by decide +kernel)) hI)
  have b119 : ∀ (s1 : Int32) (s2 : Int32) (f : mFn) (g : mGn), rg 32 63 s1 → cI n e f0 f g → X 119 [] [.inl s2, .inl s1, .inr 1] f g := by
    intro s1 s2 f g hs1 hI
    refine hX.1 12 _ rfl _ _ _ _ ?_
    refine k_X5_store n e f0 _ _ _ _ _  (by omega) hI (fun f27 gf27 hI28 => ?_)
    exact hX.2 _ _ [] _ _ _ mW0 (b144  _ _  hI28)
  have b94 : ∀ (a2 : Int32) (a3 : Int32) (a4 : Int32) (a5 : Int32) (s0 : Int32) (f : mFn) (g : mGn), rg 32 63 a2 → rg 0 128 a3 → rg 0 1 a4 → rg 0 1 s0 → cI n e f0 f g → X 94 [(0, .inr 2), (2, .inl a2), (3, .inl a3), (4, .inl a4), (5, .inl a5)] [.inl s0] f g := by
    intro a2 a3 a4 a5 s0 f g ha2 ha3 ha4 hs0 hI
    refine hX.1 10 _ rfl _ _ _ _ ?_
    refine And.intro (fun c29 => ?_) (fun c29 => ?_)
    · -- 125
      refine hX.1 13 _ rfl _ _ _ _ ?_
      refine And.intro (fun c30 => ?_) (fun c30 => ?_)
      · -- 144
        exact hX.2 _ _ [] _ _ _ mW0 (b144  _ _  (cM hI (by omega) (by omega)))
      · -- on
        refine k_X5_store n e f0 _ _ _ _ _  (by omega) hI (fun f32 gf32 hI33 => ?_)
        exact hX.2 _ _ [] _ _ _ mW0 (b144  _ _  hI33)
    · -- on
      refine And.intro (fun c34 => ?_) (fun c34 => ?_)
      · -- 115
        refine hX.1 11 _ rfl _ _ _ _ ?_
        exact hX.2 _ _ [] _ _ _ mW0 (b119 _ _ _ _ (rg_w (c := 32) (d := 63) ha2 (by decide +kernel)) hI)
      · -- on
        exact hX.2 _ _ [] _ _ _ mW0 (b119 _ _ _ _ (rg_w (c := 32) (d := 63) ha2 (by decide +kernel)) hI)
  have b89 : ∀ (a2 : Int32) (a3 : Int32) (a4 : Int32) (a5 : Int32) (f : mFn) (g : mGn), rg 35 53 a2 → rg 0 128 a3 → rg 0 1 a4 → cI n e f0 f g → X 89 [(0, .inr 2), (2, .inl a2), (3, .inl a3), (4, .inl a4), (5, .inl a5)] [] f g := by
    intro a2 a3 a4 a5 f g ha2 ha3 ha4 hI
    refine hX.1 8 _ rfl _ _ _ _ ?_
    exact hX.2 _ _ [(0, .inr 2), (2, .inl _), (3, .inl _), (4, .inl _), (5, .inl _)] _ _ _ (mWc rfl (mWc rfl (mWc rfl (mWc rfl (mWc rfl mW0))))) (b94 _ _ _ _ _ _ _ (rg_w (c := 32) (d := 63) ha2 (by decide +kernel)) (rg_w (c := 0) (d := 128) ha3 (by decide +kernel)) (rg_w (c := 0) (d := 1) ha4 (by decide +kernel)) (rg_w (c := 0) (d := 1) (rg_c (a := 1) (b := 1) (by decide +kernel)) (by decide +kernel)) hI)
  have b30 : ∀ (a1 : Int32) (a2 : Int32) (a3 : Int32) (s0 : Int32) (f : mFn) (g : mGn), rg 32 63 a2 → rg 0 128 a3 → rg 0 1 s0 → cI n e f0 f g → X 30 [(0, .inr 2), (1, .inl a1), (2, .inl a2), (3, .inl a3)] [.inl s0] f g := by
    intro a1 a2 a3 s0 f g ha2 ha3 hs0 hI
    refine hX.1 2 _ rfl _ _ _ _ ?_
    refine k_X5_load n e f0 _ _ _ _  hI (fun y35 f36 gf36 hI37 => ?_)
    refine And.intro (fun c38 => ?_) (fun c38 => ?_)
    · -- 77
      refine hX.1 7 _ rfl _ _ _ _ ?_
      refine And.intro (fun c39 => ?_) (fun c39 => ?_)
      · -- 89
        exact hX.2 _ _ [(0, .inr 2), (2, .inl _), (3, .inl _), (4, .inl _), (5, .inl _)] _ _ _ (mWc rfl (mWc rfl (mWc rfl (mWc rfl (mWc rfl mW0))))) (b89 _ _ _ _ _ _ (rg_w (c := 35) (d := 53) (show rg 35 35 _ from (rg_eq (rg_c (a := 35) (b := 35) (by decide +kernel)) c39)) (by decide +kernel)) (rg_w (c := 0) (d := 128) ha3 (by decide +kernel)) (rg_w (c := 0) (d := 1) hs0 (by decide +kernel)) hI37)
      · -- on
        refine And.intro (fun c40 => ?_) (fun c40 => ?_)
        · -- 93
          refine hX.1 9 _ rfl _ _ _ _ ?_
          exact hX.2 _ _ [(0, .inr 2), (2, .inl _), (3, .inl _), (4, .inl _), (5, .inl _)] _ _ _ (mWc rfl (mWc rfl (mWc rfl (mWc rfl (mWc rfl mW0))))) (b94 _ _ _ _ _ _ _ (rg_w (c := 32) (d := 63) ha2 (by decide +kernel)) (rg_w (c := 0) (d := 128) ha3 (by decide +kernel)) (rg_w (c := 0) (d := 1) hs0 (by decide +kernel)) (rg_w (c := 0) (d := 1) (rg_c (a := 0) (b := 0) (by decide +kernel)) (by decide +kernel)) hI37)
        · -- on
          exact hX.2 _ _ [(0, .inr 2), (2, .inl _), (3, .inl _), (4, .inl _), (5, .inl _)] _ _ _ (mWc rfl (mWc rfl (mWc rfl (mWc rfl (mWc rfl mW0))))) (b89 _ _ _ _ _ _ (rg_w (c := 35) (d := 53) (show rg 53 53 _ from (rg_eq (rg_c (a := 53) (b := 53) (by decide +kernel)) c40)) (by decide +kernel)) (rg_w (c := 0) (d := 128) ha3 (by decide +kernel)) (rg_w (c := 0) (d := 1) hs0 (by decide +kernel)) hI37)
    · -- on
      refine And.intro (fun c41 => ?_) (fun c41 => ?_)
      · -- 62
        refine hX.1 3 _ rfl _ _ _ _ ?_
        exact hX.2 _ _ [(4, .inl _)] _ _ _ (mWc rfl mW0) (b63 _ _ _ _ (rg_w (c := 0) (d := 1) hs0 (by decide +kernel)) (rg_w (c := 0) (d := 1) (rg_c (a := 0) (b := 0) (by decide +kernel)) (by decide +kernel)) hI37)
      · -- on
        exact hX.2 _ _ [(4, .inl _)] _ _ _ (mWc rfl mW0) (b63 _ _ _ _ (rg_w (c := 0) (d := 1) hs0 (by decide +kernel)) (rg_w (c := 0) (d := 1) (rg_c (a := 1) (b := 1) (by decide +kernel)) (by decide +kernel)) hI37)
  refine hX.1 0 _ rfl _ _ _ _ ?_
  refine And.intro (fun c42 => ?_) (fun c42 => ?_)
  · -- 29
    refine hX.1 1 _ rfl _ _ _ _ ?_
    exact hX.2 _ _ [(0, .inr 2), (1, .inl _), (2, .inl _), (3, .inl _)] _ _ _ (mWc rfl (mWc rfl (mWc rfl (mWc rfl mW0)))) (b30 _ _ _ _ _ _ (rg_w (c := 32) (d := 63) (show rg 32 63 _ from (rg_add (rg_c (a := 32) (b := 32) (by decide +kernel)) (show rg 0 31 _ from (rg_andR (rg_c (a := 31) (b := 31) (by decide +kernel)) (by decide +kernel))) (by decide +kernel))) (by decide +kernel)) (rg_w (c := 0) (d := 128) (show rg 0 128 _ from (rg_shlV 7 (rg_c (a := 1) (b := 1) (by decide +kernel)) (show rg 0 7 _ from (rg_andR (rg_c (a := 7) (b := 7) (by decide +kernel)) (by decide +kernel))) (by decide +kernel))) (by decide +kernel)) (rg_w (c := 0) (d := 1) (rg_c (a := 0) (b := 0) (by decide +kernel)) (by decide +kernel)) hI)
  · -- on
    exact hX.2 _ _ [(0, .inr 2), (1, .inl _), (2, .inl _), (3, .inl _)] _ _ _ (mWc rfl (mWc rfl (mWc rfl (mWc rfl mW0)))) (b30 _ _ _ _ _ _ (rg_w (c := 32) (d := 63) (show rg 32 63 _ from (rg_add (rg_c (a := 32) (b := 32) (by decide +kernel)) (show rg 0 31 _ from (rg_andR (rg_c (a := 31) (b := 31) (by decide +kernel)) (by decide +kernel))) (by decide +kernel))) (by decide +kernel)) (rg_w (c := 0) (d := 128) (show rg 0 128 _ from (rg_shlV 7 (rg_c (a := 1) (b := 1) (by decide +kernel)) (show rg 0 7 _ from (rg_andR (rg_c (a := 7) (b := 7) (by decide +kernel)) (by decide +kernel))) (by decide +kernel))) (by decide +kernel)) (rg_w (c := 0) (d := 1) (rg_c (a := 1) (b := 1) (by decide +kernel)) (by decide +kernel)) hI)
def SPX1_withNumber (S : mSp) : Prop := ∀ (n e : Int) (f0 f : mFn) (g : mGn) (K : mKr) (x1 : Int32), cI n e f0 f g → (∀ (y : Int32) (f' : mFn) (g' : mGn), rg 1 1 y → cI n e f0 f' g' → K (some (.inl y)) f' g') → S [.inr 2, .inl x1] f g K
set_option maxRecDepth 100000 in
set_option maxHeartbeats 4000000 in
theorem sfX1_withNumber : SPX1_withNumber spX1_withNumber := by
  intro n e f0 f g K x1  hI hK
  refine ⟨rfl, fun X hX => ?_⟩
  obtain ⟨S_X0_subtract, k_X0_subtract, S_X0_subtractOn, k_X0_subtractOn, S_X0_logic, k_X0_logic, hX⟩ : ∃ S_X0_subtract, SPX0_subtract S_X0_subtract ∧ ∃ S_X0_subtractOn, SPX0_subtractOn S_X0_subtractOn ∧ ∃ S_X0_logic, SPX0_logic S_X0_logic ∧ mR shC fdX1_withNumber [(170, 0, 3, 3, S_X0_subtract), (142, 0, 2, 3, S_X0_subtractOn), (176, 0, 1, 3, S_X0_logic)] bsX1_withNumber (fun r f g => mRt (some .int) r ∧ K r f g) X := ⟨spX0_subtract, sfX0_subtract, spX0_subtractOn, sfX0_subtractOn, spX0_logic, sfX0_logic, hX⟩
  have b169 : ∀ (f : mFn) (g : mGn), cI n e f0 f g → X 169 [] [] f g := by
    intro f g  hI
    refine hX.1 7 _ rfl _ _ _ _ ?_
    exact And.intro mRt_i (hK _ _ _ (rg_w (c := 1) (d := 1) (rg_c (a := 1) (b := 1) (by decide +kernel)) (by decide +kernel)) hI)
  refine hX.1 0 _ rfl _ _ _ _ ?_
  refine And.intro (rg_in (show rg 16 31 _ from (rg_add (rg_c (a := 16) (b := 16) (by decide +kernel)) (show rg 0 15 _ from (rg_andR (rg_c (a := 15) (b := 15) (by decide +kernel)) (by decide +kernel))) (by decide +kernel))) (by decide +kernel)) ?_
  refine And.intro (fun c26 => ?_) (fun c26 => ?_)
  · -- 68
    refine hX.1 1 _ rfl _ _ _ _ ?_
    refine k_X0_subtract n e f0 _ _ _ _ _ _ (rg_w (c := 0) (d := 1) (rg_c (a := 0) (b := 0) (by decide +kernel)) (by decide +kernel)) hI (fun y27 f28 gf28 hy27 hI29 => ?_)
    exact hX.2 _ _ [] _ _ _ mW0 (b169  _ _  hI29)
  · -- on
    refine And.intro (fun c30 => ?_) (fun c30 => ?_)
    · -- 83
      refine hX.1 2 _ rfl _ _ _ _ ?_
      refine k_X0_subtractOn n e f0 _ _ _ _ _  hI (fun y31 f32 gf32 hy31 hI33 => ?_)
      refine And.intro (rg_in (show rg 16 31 _ from (rg_add (rg_c (a := 16) (b := 16) (by decide +kernel)) (show rg 0 15 _ from (rg_andR (rg_c (a := 15) (b := 15) (by decide +kernel)) (by decide +kernel))) (by decide +kernel))) (by decide +kernel)) ?_
      exact hX.2 _ _ [] _ _ _ mW0 (b169  _ _  (gI_a0 hI33 (by decide +kernel)))
    · -- on
      refine And.intro (fun c35 => ?_) (fun c35 => ?_)
      · -- 102
        refine hX.1 3 _ rfl _ _ _ _ ?_
        refine k_X0_subtract n e f0 _ _ _ _ _ _ (rg_w (c := 0) (d := 1) (rg_c (a := 0) (b := 0) (by decide +kernel)) (by decide +kernel)) hI (fun y36 f37 gf37 hy36 hI38 => ?_)
        refine And.intro (rg_in (show rg 16 31 _ from (rg_add (rg_c (a := 16) (b := 16) (by decide +kernel)) (show rg 0 15 _ from (rg_andR (rg_c (a := 15) (b := 15) (by decide +kernel)) (by decide +kernel))) (by decide +kernel))) (by decide +kernel)) ?_
        exact hX.2 _ _ [] _ _ _ mW0 (b169  _ _  (gI_a0 hI38 (by decide +kernel)))
      · -- on
        refine And.intro (fun c40 => ?_) (fun c40 => ?_)
        · -- 122
          refine hX.1 4 _ rfl _ _ _ _ ?_
          refine k_X0_logic n e f0 _ _ _ _  hI (fun y41 f42 gf42 hI43 => ?_)
          refine And.intro (rg_in (show rg 16 31 _ from (rg_add (rg_c (a := 16) (b := 16) (by decide +kernel)) (show rg 0 15 _ from (rg_andR (rg_c (a := 15) (b := 15) (by decide +kernel)) (by decide +kernel))) (by decide +kernel))) (by decide +kernel)) ?_
          exact hX.2 _ _ [] _ _ _ mW0 (b169  _ _  (gI_a0 hI43 (by decide +kernel)))
        · -- on
          refine And.intro (fun c45 => ?_) (fun c45 => ?_)
          · -- 142
            refine hX.1 5 _ rfl _ _ _ _ ?_
            refine k_X0_logic n e f0 _ _ _ _  hI (fun y46 f47 gf47 hI48 => ?_)
            refine And.intro (rg_in (show rg 16 31 _ from (rg_add (rg_c (a := 16) (b := 16) (by decide +kernel)) (show rg 0 15 _ from (rg_andR (rg_c (a := 15) (b := 15) (by decide +kernel)) (by decide +kernel))) (by decide +kernel))) (by decide +kernel)) ?_
            exact hX.2 _ _ [] _ _ _ mW0 (b169  _ _  (gI_a0 hI48 (by decide +kernel)))
          · -- on
            refine hX.1 6 _ rfl _ _ _ _ ?_
            refine And.intro (rg_in (show rg 16 31 _ from (rg_add (rg_c (a := 16) (b := 16) (by decide +kernel)) (show rg 0 15 _ from (rg_andR (rg_c (a := 15) (b := 15) (by decide +kernel)) (by decide +kernel))) (by decide +kernel))) (by decide +kernel)) ?_
            exact hX.2 _ _ [] _ _ _ mW0 (b169  _ _  (gI_a0 hI (by decide +kernel)))
def SPX1_instruction (S : mSp) : Prop := ∀ (n e : Int) (f0 f : mFn) (g : mGn) (K : mKr), n + 2 ≤ 300000000 → cI n e f0 f g → (∀ (y : Int32) (f' : mFn) (g' : mGn), rg 1 8001 y → cI (n + 2) e f0 f' g' → K (some (.inl y)) f' g') → S [.inr 2] f g K
set_option maxRecDepth 100000 in
set_option maxHeartbeats 4000000 in
theorem sfX1_instruction : SPX1_instruction spX1_instruction := by
  intro n e f0 f g K   hB hI hK
  refine ⟨rfl, fun X hX => ?_⟩
  obtain ⟨S_X1_nextWord, k_X1_nextWord, S_X1_kind, k_X1_kind, S_X1_zeroes, k_X1_zeroes, S_X1_ones, k_X1_ones, S_X1_logicOfTwo, k_X1_logicOfTwo, S_X1_atDistance, k_X1_atDistance, S_X1_port, k_X1_port, S_X1_jumpBy, k_X1_jumpBy, S_X1_pushPc, k_X1_pushPc, S_X1_byBit, k_X1_byBit, S_X1_loadInto, k_X1_loadInto, S_X1_storeFrom, k_X1_storeFrom, S_X1_toNext, k_X1_toNext, S_X1_isControl, k_X1_isControl, S_X1_control, k_X1_control, S_X1_ofOne, k_X1_ofOne, S_X1_ofPair, k_X1_ofPair, S_X1_portBit, k_X1_portBit, S_X1_first, k_X1_first, S_X1_second, k_X1_second, S_X1_multiply, k_X1_multiply, S_X1_withNumber, k_X1_withNumber, hX⟩ : ∃ S_X1_nextWord, SPX1_nextWord S_X1_nextWord ∧ ∃ S_X1_kind, SPX1_kind S_X1_kind ∧ ∃ S_X1_zeroes, SPX1_zeroes S_X1_zeroes ∧ ∃ S_X1_ones, SPX1_ones S_X1_ones ∧ ∃ S_X1_logicOfTwo, SPX1_logicOfTwo S_X1_logicOfTwo ∧ ∃ S_X1_atDistance, SPX1_atDistance S_X1_atDistance ∧ ∃ S_X1_port, SPX1_port S_X1_port ∧ ∃ S_X1_jumpBy, SPX1_jumpBy S_X1_jumpBy ∧ ∃ S_X1_pushPc, SPX1_pushPc S_X1_pushPc ∧ ∃ S_X1_byBit, SPX1_byBit S_X1_byBit ∧ ∃ S_X1_loadInto, SPX1_loadInto S_X1_loadInto ∧ ∃ S_X1_storeFrom, SPX1_storeFrom S_X1_storeFrom ∧ ∃ S_X1_toNext, SPX1_toNext S_X1_toNext ∧ ∃ S_X1_isControl, SPX1_isControl S_X1_isControl ∧ ∃ S_X1_control, SPX1_control S_X1_control ∧ ∃ S_X1_ofOne, SPX1_ofOne S_X1_ofOne ∧ ∃ S_X1_ofPair, SPX1_ofPair S_X1_ofPair ∧ ∃ S_X1_portBit, SPX1_portBit S_X1_portBit ∧ ∃ S_X1_first, SPX1_first S_X1_first ∧ ∃ S_X1_second, SPX1_second S_X1_second ∧ ∃ S_X1_multiply, SPX1_multiply S_X1_multiply ∧ ∃ S_X1_withNumber, SPX1_withNumber S_X1_withNumber ∧ mR shC fdX1_instruction [(50, 0, 0, 4, S_X1_nextWord), (62, 1, 1, 0, S_X1_kind), (66, 0, 1, 4, S_X1_zeroes), (69, 0, 1, 4, S_X1_ones), (72, 0, 1, 4, S_X1_logicOfTwo), (75, 0, 1, 4, S_X1_atDistance), (78, 0, 1, 4, S_X1_port), (81, 0, 2, 4, S_X1_jumpBy), (44, 0, 0, 4, S_X1_pushPc), (85, 0, 1, 4, S_X1_byBit), (88, 0, 1, 4, S_X1_loadInto), (91, 0, 1, 4, S_X1_storeFrom), (94, 0, 1, 4, S_X1_toNext), (97, 1, 1, 0, S_X1_isControl), (101, 0, 1, 4, S_X1_control), (104, 0, 1, 4, S_X1_ofOne), (107, 0, 1, 4, S_X1_ofPair), (110, 0, 1, 4, S_X1_portBit), (113, 1, 1, 0, S_X1_first), (116, 1, 1, 0, S_X1_second), (119, 0, 2, 4, S_X1_multiply), (123, 0, 1, 4, S_X1_withNumber)] bsX1_instruction (fun r f g => mRt (some .int) r ∧ K r f g) X := ⟨spX1_nextWord, sfX1_nextWord, spX1_kind, sfX1_kind, spX1_zeroes, sfX1_zeroes, spX1_ones, sfX1_ones, spX1_logicOfTwo, sfX1_logicOfTwo, spX1_atDistance, sfX1_atDistance, spX1_port, sfX1_port, spX1_jumpBy, sfX1_jumpBy, spX1_pushPc, sfX1_pushPc, spX1_byBit, sfX1_byBit, spX1_loadInto, sfX1_loadInto, spX1_storeFrom, sfX1_storeFrom, spX1_toNext, sfX1_toNext, spX1_isControl, sfX1_isControl, spX1_control, sfX1_control, spX1_ofOne, sfX1_ofOne, spX1_ofPair, sfX1_ofPair, spX1_portBit, sfX1_portBit, spX1_first, sfX1_first, spX1_second, sfX1_second, spX1_multiply, sfX1_multiply, spX1_withNumber, sfX1_withNumber, hX⟩
  have b210 : ∀ (a1 : Int32) (f : mFn) (g : mGn), cI n e f0 f g → X 210 [(0, .inr 2), (1, .inl a1)] [] f g := by
    intro a1 f g  hI
    refine hX.1 7 _ rfl _ _ _ _ ?_
    refine k_X1_atDistance n e f0 _ _ _ _  (by omega) hI (fun y94 f95 gf95 hy94 hI96 => ?_)
    exact And.intro mRt_i (hK _ _ _ (rg_w (c := 1) (d := 8001) hy94 (by decide +kernel)) (cM hI96 (by omega) (by omega)))
  have b293 : ∀ (s0 : Int32) (f : mFn) (g : mGn), rg 1 8001 s0 → cI (n + 2) e f0 f g → X 293 [] [.inl s0] f g := by
    intro s0 f g hs0 hI
    refine hX.1 17 _ rfl _ _ _ _ ?_
    exact And.intro mRt_i (hK _ _ _ (rg_w (c := 1) (d := 8001) hs0 (by decide +kernel)) hI)
  have b300 : ∀ (a1 : Int32) (f : mFn) (g : mGn), cI n e f0 f g → X 300 [(0, .inr 2), (1, .inl a1)] [] f g := by
    intro a1 f g  hI
    refine hX.1 19 _ rfl _ _ _ _ ?_
    refine k_X1_portBit n e f0 _ _ _ _  (by omega) hI (fun y97 f98 gf98 hy97 hI99 => ?_)
    exact And.intro mRt_i (hK _ _ _ (rg_w (c := 1) (d := 8001) hy97 (by decide +kernel)) (cM hI99 (by omega) (by omega)))
  have b306 : ∀ (a1 : Int32) (f : mFn) (g : mGn), cI n e f0 f g → X 306 [(0, .inr 2), (1, .inl a1)] [] f g := by
    intro a1 f g  hI
    refine hX.1 20 _ rfl _ _ _ _ ?_
    refine k_X1_first n e f0 _ _ _ _  hI (fun y100 hy100 => ?_)
    refine And.intro (rg_in hy100 (by decide +kernel)) ?_
    refine k_X1_second n e f0 _ _ _ _  hI (fun y103 hy103 => ?_)
    refine And.intro (rg_in hy103 (by decide +kernel)) ?_
    refine k_X1_multiply n e f0 _ _ _ _ _ (rg_w (c := 0) (d := 1) (rg_c (a := 0) (b := 0) (by decide +kernel)) (by decide +kernel)) hI (fun y106 f107 gf107 hy106 hI108 => ?_)
    exact And.intro mRt_i (hK _ _ _ (rg_w (c := 1) (d := 8001) hy106 (by decide +kernel)) (cM hI108 (by omega) (by omega)))
  have b31 : ∀ (a1 : Int32) (s1 : Int32) (f : mFn) (g : mGn), rg 0 1 s1 → cI n e f0 f g → X 31 [(0, .inr 2), (1, .inl a1)] [.inl s1, .inr 2] f g := by
    intro a1 s1 f g hs1 hI
    refine hX.1 3 _ rfl _ _ _ _ ?_
    refine And.intro (rg_01 hs1 (by decide +kernel)) ?_
    refine k_X1_kind n e f0 _ _ _ _  (cD0 (cP0 hI (by decide +kernel))) (fun y111 hy111 => ?_)
    refine And.intro (fun c114 => ?_) (fun c114 => ?_)
    · -- 192
      refine hX.1 4 _ rfl _ _ _ _ ?_
      refine k_X1_zeroes n e f0 _ _ _ _  (cD0 (cP0 hI (by decide +kernel))) (fun y115 f116 gf116 hy115 hI117 => ?_)
      exact And.intro mRt_i (hK _ _ _ (rg_w (c := 1) (d := 8001) hy115 (by decide +kernel)) (cM hI117 (by omega) (by omega)))
    · -- on
      refine And.intro (fun c118 => ?_) (fun c118 => ?_)
      · -- 198
        refine hX.1 5 _ rfl _ _ _ _ ?_
        refine k_X1_ones n e f0 _ _ _ _  (cD0 (cP0 hI (by decide +kernel))) (fun y119 f120 gf120 hy119 hI121 => ?_)
        exact And.intro mRt_i (hK _ _ _ (rg_w (c := 1) (d := 8001) hy119 (by decide +kernel)) (cM hI121 (by omega) (by omega)))
      · -- on
        refine And.intro (fun c122 => ?_) (fun c122 => ?_)
        · -- 204
          refine hX.1 6 _ rfl _ _ _ _ ?_
          refine k_X1_logicOfTwo n e f0 _ _ _ _  (cD0 (cP0 hI (by decide +kernel))) (fun y123 f124 gf124 hy123 hI125 => ?_)
          exact And.intro mRt_i (hK _ _ _ (rg_w (c := 1) (d := 8001) hy123 (by decide +kernel)) (cM hI125 (by omega) (by omega)))
        · -- on
          refine And.intro (fun c126 => ?_) (fun c126 => ?_)
          · -- 210
            exact hX.2 _ _ [(0, .inr 2), (1, .inl _)] _ _ _ (mWc rfl (mWc rfl mW0)) (b210 _ _ _  (cD0 (cP0 hI (by decide +kernel))))
          · -- on
            refine And.intro (fun c127 => ?_) (fun c127 => ?_)
            · -- 210
              exact hX.2 _ _ [(0, .inr 2), (1, .inl _)] _ _ _ (mWc rfl (mWc rfl mW0)) (b210 _ _ _  (cD0 (cP0 hI (by decide +kernel))))
            · -- on
              refine And.intro (fun c128 => ?_) (fun c128 => ?_)
              · -- 216
                refine hX.1 8 _ rfl _ _ _ _ ?_
                refine k_X1_port n e f0 _ _ _ _  (by omega) (cD0 (cP0 hI (by decide +kernel))) (fun y129 f130 gf130 hy129 hI131 => ?_)
                exact And.intro mRt_i (hK _ _ _ (rg_w (c := 1) (d := 8001) hy129 (by decide +kernel)) (cM hI131 (by omega) (by omega)))
              · -- on
                refine And.intro (fun c132 => ?_) (fun c132 => ?_)
                · -- 222
                  refine hX.1 9 _ rfl _ _ _ _ ?_
                  refine k_X1_jumpBy n e f0 _ _ _ _ _ (rg_w (c := 2) (d := 3) (rg_c (a := 2) (b := 2) (by decide +kernel)) (by decide +kernel)) (cD0 (cP0 hI (by decide +kernel))) (fun y133 f134 gf134 hy133 hI135 => ?_)
                  exact And.intro mRt_i (hK _ _ _ (rg_w (c := 1) (d := 8001) hy133 (by decide +kernel)) (cM hI135 (by omega) (by omega)))
                · -- on
                  refine And.intro (fun c136 => ?_) (fun c136 => ?_)
                  · -- 229
                    refine hX.1 10 _ rfl _ _ _ _ ?_
                    refine k_X1_pushPc n e f0 _ _ _   (by omega) (cD0 (cP0 hI (by decide +kernel))) (fun f138 gf138 hI139 => ?_)
                    refine k_X1_jumpBy (n + 2) e f0 _ _ _ _ _ (rg_w (c := 2) (d := 3) (rg_c (a := 3) (b := 3) (by decide +kernel)) (by decide +kernel)) hI139 (fun y140 f141 gf141 hy140 hI142 => ?_)
                    exact And.intro mRt_i (hK _ _ _ (rg_w (c := 1) (d := 8001) hy140 (by decide +kernel)) hI142)
                  · -- on
                    refine And.intro (fun c143 => ?_) (fun c143 => ?_)
                    · -- 240
                      refine hX.1 11 _ rfl _ _ _ _ ?_
                      refine k_X1_byBit n e f0 _ _ _ _  (cD0 (cP0 hI (by decide +kernel))) (fun y144 f145 gf145 hy144 hI146 => ?_)
                      exact And.intro mRt_i (hK _ _ _ (rg_w (c := 1) (d := 8001) hy144 (by decide +kernel)) (cM hI146 (by omega) (by omega)))
                    · -- on
                      refine And.intro (fun c147 => ?_) (fun c147 => ?_)
                      · -- 246
                        refine hX.1 12 _ rfl _ _ _ _ ?_
                        refine k_X1_loadInto n e f0 _ _ _ _  (cD0 (cP0 hI (by decide +kernel))) (fun y148 f149 gf149 hy148 hI150 => ?_)
                        exact And.intro mRt_i (hK _ _ _ (rg_w (c := 1) (d := 8001) hy148 (by decide +kernel)) (cM hI150 (by omega) (by omega)))
                      · -- on
                        refine And.intro (fun c151 => ?_) (fun c151 => ?_)
                        · -- 252
                          refine hX.1 13 _ rfl _ _ _ _ ?_
                          refine k_X1_storeFrom n e f0 _ _ _ _  (by omega) (cD0 (cP0 hI (by decide +kernel))) (fun y152 f153 gf153 hy152 hI154 => ?_)
                          exact And.intro mRt_i (hK _ _ _ (rg_w (c := 1) (d := 8001) hy152 (by decide +kernel)) (cM hI154 (by omega) (by omega)))
                        · -- on
                          refine And.intro (fun c155 => ?_) (fun c155 => ?_)
                          · -- 258
                            refine hX.1 14 _ rfl _ _ _ _ ?_
                            refine And.intro (fun c156 => ?_) (fun c156 => ?_)
                            · -- 273
                              refine hX.1 15 _ rfl _ _ _ _ ?_
                              refine k_X1_isControl n e f0 _ _ _ _  (cD0 (cP0 hI (by decide +kernel))) (fun y157 hy157 => ?_)
                              refine And.intro (fun c160 => ?_) (fun c160 => ?_)
                              · -- 288
                                refine hX.1 16 _ rfl _ _ _ _ ?_
                                refine k_X1_ofOne n e f0 _ _ _ _  (cD0 (cP0 hI (by decide +kernel))) (fun y161 f162 gf162 hy161 hI163 => ?_)
                                exact hX.2 _ _ [] _ _ _ mW0 (b293 _ _ _ (rg_w (c := 1) (d := 8001) hy161 (by decide +kernel)) (cM hI163 (by omega) (by omega)))
                              · -- on
                                refine k_X1_control n e f0 _ _ _ _  (by omega) (cD0 (cP0 hI (by decide +kernel))) (fun y164 f165 gf165 hy164 hI166 => ?_)
                                exact hX.2 _ _ [] _ _ _ mW0 (b293 _ _ _ (rg_w (c := 1) (d := 8001) hy164 (by decide +kernel)) hI166)
                            · -- on
                              refine k_X1_toNext n e f0 _ _ _ _  (by omega) (cD0 (cP0 hI (by decide +kernel))) (fun y167 f168 gf168 hy167 hI169 => ?_)
                              exact And.intro mRt_i (hK _ _ _ (rg_w (c := 1) (d := 8001) hy167 (by decide +kernel)) hI169)
                          · -- on
                            refine And.intro (fun c170 => ?_) (fun c170 => ?_)
                            · -- 294
                              refine hX.1 18 _ rfl _ _ _ _ ?_
                              refine k_X1_ofPair n e f0 _ _ _ _  (cD0 (cP0 hI (by decide +kernel))) (fun y171 f172 gf172 hy171 hI173 => ?_)
                              exact And.intro mRt_i (hK _ _ _ (rg_w (c := 1) (d := 8001) hy171 (by decide +kernel)) (cM hI173 (by omega) (by omega)))
                            · -- on
                              refine And.intro (fun c174 => ?_) (fun c174 => ?_)
                              · -- 300
                                exact hX.2 _ _ [(0, .inr 2), (1, .inl _)] _ _ _ (mWc rfl (mWc rfl mW0)) (b300 _ _ _  (cD0 (cP0 hI (by decide +kernel))))
                              · -- on
                                refine And.intro (fun c175 => ?_) (fun c175 => ?_)
                                · -- 300
                                  exact hX.2 _ _ [(0, .inr 2), (1, .inl _)] _ _ _ (mWc rfl (mWc rfl mW0)) (b300 _ _ _  (cD0 (cP0 hI (by decide +kernel))))
                                · -- on
                                  refine And.intro (fun c176 => ?_) (fun c176 => ?_)
                                  · -- 306
                                    exact hX.2 _ _ [(0, .inr 2), (1, .inl _)] _ _ _ (mWc rfl (mWc rfl mW0)) (b306 _ _ _  (cD0 (cP0 hI (by decide +kernel))))
                                  · -- on
                                    refine And.intro (fun c177 => ?_) (fun c177 => ?_)
                                    · -- 306
                                      exact hX.2 _ _ [(0, .inr 2), (1, .inl _)] _ _ _ (mWc rfl (mWc rfl mW0)) (b306 _ _ _  (cD0 (cP0 hI (by decide +kernel))))
                                    · -- on
                                      refine hX.1 21 _ rfl _ _ _ _ ?_
                                      refine k_X1_withNumber n e f0 _ _ _ _  (cD0 (cP0 hI (by decide +kernel))) (fun y178 f179 gf179 hy178 hI180 => ?_)
                                      exact And.intro mRt_i (hK _ _ _ (rg_w (c := 1) (d := 8001) hy178 (by decide +kernel)) (cM hI180 (by omega) (by omega)))
  have b26 : ∀ (a1 : Int32) (f : mFn) (g : mGn), rg 38008 38168 a1 → cI n e f0 f g → X 26 [(0, .inr 2), (1, .inl a1)] [.inr 2] f g := by
    intro a1 f g ha1 hI
    refine hX.1 1 _ rfl _ _ _ _ ?_
    exact hX.2 _ _ [(0, .inr 2), (1, .inl _)] _ _ _ (mWc rfl (mWc rfl mW0)) (b31 _ _ _ _ (rg_w (c := 0) (d := 1) (rg_c (a := 1) (b := 1) (by decide +kernel)) (by decide +kernel)) hI)
  refine hX.1 0 _ rfl _ _ _ _ ?_
  refine k_X1_nextWord n e f0 _ _ _  (cP0 hI (by decide +kernel)) (fun y182 f183 gf183 hI184 => ?_)
  refine And.intro (fun c185 => ?_) (fun c185 => ?_)
  · -- 26
    exact hX.2 _ _ [(0, .inr 2), (1, .inl _)] _ _ _ (mWc rfl (mWc rfl mW0)) (b26 _ _ _ (rg_w (c := 38008) (d := 38168) (show rg 38008 38008 _ from (rg_eq (rg_c (a := 38008) (b := 38008) (by decide +kernel)) c185)) (by decide +kernel)) hI184)
  · -- on
    refine And.intro (fun c186 => ?_) (fun c186 => ?_)
    · -- 30
      refine hX.1 2 _ rfl _ _ _ _ ?_
      exact hX.2 _ _ [(0, .inr 2), (1, .inl _)] _ _ _ (mWc rfl (mWc rfl mW0)) (b31 _ _ _ _ (rg_w (c := 0) (d := 1) (rg_c (a := 0) (b := 0) (by decide +kernel)) (by decide +kernel)) hI184)
    · -- on
      exact hX.2 _ _ [(0, .inr 2), (1, .inl _)] _ _ _ (mWc rfl (mWc rfl mW0)) (b26 _ _ _ (rg_w (c := 38008) (d := 38168) (show rg 38168 38168 _ from (rg_eq (rg_c (a := 38168) (b := 38168) (by decide +kernel)) c186)) (by decide +kernel)) hI184)
def SPX1_waitingInterrupt (S : mSp) : Prop := ∀ (n e : Int) (f0 f : mFn) (g : mGn) (K : mKr), cI n e f0 f g → (∀ (y : Int32), rg 0 8 y → K (some (.inl y)) f g) → S [.inr 2] f g K
set_option maxRecDepth 100000 in
set_option maxHeartbeats 4000000 in
theorem sfX1_waitingInterrupt : SPX1_waitingInterrupt spX1_waitingInterrupt := by
  intro n e f0 f g K   hI hK
  refine ⟨rfl, fun X hX => ?_⟩
  have b155 : ∀ (s0 : Int32), rg 0 8 s0 → X 155 [] [.inl s0] f g := by
    intro s0 hs0
    refine hX.1 10 _ rfl _ _ _ _ ?_
    exact And.intro mRt_i (hK _ (rg_w (c := 0) (d := 8) hs0 (by decide +kernel)) )
  refine hX.1 0 _ rfl _ _ _ _ ?_
  refine And.intro (rg_in (rg_c (a := 95) (b := 95) (by decide +kernel)) (by decide +kernel)) ?_
  refine And.intro (fun c10 => ?_) (fun c10 => ?_)
  · -- 16
    refine hX.1 1 _ rfl _ _ _ _ ?_
    refine And.intro (rg_in (rg_c (a := 96) (b := 96) (by decide +kernel)) (by decide +kernel)) ?_
    refine And.intro (fun c11 => ?_) (fun c11 => ?_)
    · -- 35
      refine hX.1 2 _ rfl _ _ _ _ ?_
      refine And.intro (rg_in (rg_c (a := 53) (b := 53) (by decide +kernel)) (by decide +kernel)) ?_
      refine And.intro (rg_in (rg_c (a := 110) (b := 110) (by decide +kernel)) (by decide +kernel)) ?_
      refine And.intro (fun c12 => ?_) (fun c12 => ?_)
      · -- 59
        refine hX.1 3 _ rfl _ _ _ _ ?_
        refine And.intro (fun c13 => ?_) (fun c13 => ?_)
        · -- 67
          refine hX.1 4 _ rfl _ _ _ _ ?_
          refine And.intro (rg_in (rg_c (a := 192) (b := 192) (by decide +kernel)) (by decide +kernel)) ?_
          refine And.intro (rg_in (rg_c (a := 193) (b := 193) (by decide +kernel)) (by decide +kernel)) ?_
          refine And.intro (fun c14 => ?_) (fun c14 => ?_)
          · -- 95
            refine hX.1 5 _ rfl _ _ _ _ ?_
            refine And.intro (fun c15 => ?_) (fun c15 => ?_)
            · -- 104
              refine hX.1 6 _ rfl _ _ _ _ ?_
              refine And.intro (fun c16 => ?_) (fun c16 => ?_)
              · -- 114
                refine hX.1 7 _ rfl _ _ _ _ ?_
                refine And.intro (rg_in (rg_c (a := 63) (b := 63) (by decide +kernel)) (by decide +kernel)) ?_
                refine And.intro (fun c17 => ?_) (fun c17 => ?_)
                · -- 132
                  refine hX.1 8 _ rfl _ _ _ _ ?_
                  refine And.intro (rg_in (rg_c (a := 87) (b := 87) (by decide +kernel)) (by decide +kernel)) ?_
                  refine And.intro (fun c18 => ?_) (fun c18 => ?_)
                  · -- 154
                    refine hX.1 9 _ rfl _ _ _ _ ?_
                    exact hX.2 _ _ [] _ _ _ mW0 (b155 _ (rg_w (c := 0) (d := 8) (rg_c (a := 0) (b := 0) (by decide +kernel)) (by decide +kernel)))
                  · -- on
                    exact hX.2 _ _ [] _ _ _ mW0 (b155 _ (rg_w (c := 0) (d := 8) (rg_c (a := 8) (b := 8) (by decide +kernel)) (by decide +kernel)))
                · -- on
                  exact And.intro mRt_i (hK _ (rg_w (c := 0) (d := 8) (rg_c (a := 7) (b := 7) (by decide +kernel)) (by decide +kernel)) )
              · -- on
                exact And.intro mRt_i (hK _ (rg_w (c := 0) (d := 8) (rg_c (a := 6) (b := 6) (by decide +kernel)) (by decide +kernel)) )
            · -- on
              exact And.intro mRt_i (hK _ (rg_w (c := 0) (d := 8) (rg_c (a := 5) (b := 5) (by decide +kernel)) (by decide +kernel)) )
          · -- on
            exact And.intro mRt_i (hK _ (rg_w (c := 0) (d := 8) (rg_c (a := 4) (b := 4) (by decide +kernel)) (by decide +kernel)) )
        · -- on
          exact And.intro mRt_i (hK _ (rg_w (c := 0) (d := 8) (rg_c (a := 3) (b := 3) (by decide +kernel)) (by decide +kernel)) )
      · -- on
        exact And.intro mRt_i (hK _ (rg_w (c := 0) (d := 8) (rg_c (a := 2) (b := 2) (by decide +kernel)) (by decide +kernel)) )
    · -- on
      exact And.intro mRt_i (hK _ (rg_w (c := 0) (d := 8) (rg_c (a := 1) (b := 1) (by decide +kernel)) (by decide +kernel)) )
  · -- on
    exact And.intro mRt_i (hK _ (rg_w (c := 0) (d := 8) (rg_c (a := 0) (b := 0) (by decide +kernel)) (by decide +kernel)) )
def SPX2_clear (S : mSp) : Prop := ∀ (n e : Int) (f0 f : mFn) (g : mGn) (K : mKr), cI n e f0 f g → (∀ (f' : mFn) (g' : mGn), cI n e f0 f' g' → K none f' g') → S [.inr 6] f g K
set_option maxRecDepth 100000 in
set_option maxHeartbeats 4000000 in
theorem sfX2_clear : SPX2_clear spX2_clear := by
  intro n e f0 f g K   hI hK
  refine ⟨rfl, fun X hX => ?_⟩
  refine hX.1 0 _ rfl _ _ _ _ ?_
  exact And.intro mRt_v (hK _ _ (cP0 (cP0 hI (by decide +kernel)) (by decide +kernel)))
def SPX2_cycle (S : mSp) : Prop := ∀ (n e : Int) (f0 f : mFn) (g : mGn) (K : mKr), cI n e f0 f g → (∀ (f' : mFn) (g' : mGn), cI n e f0 f' g' → K none f' g') → S [.inr 6] f g K
set_option maxRecDepth 100000 in
set_option maxHeartbeats 4000000 in
theorem sfX2_cycle : SPX2_cycle spX2_cycle := by
  intro n e f0 f g K   hI hK
  refine ⟨rfl, fun X hX => ?_⟩
  have b72 : ∀ (f : mFn) (g : mGn), cI n e f0 f g → X 72 [] [] f g := by
    intro f g  hI
    refine hX.1 2 _ rfl _ _ _ _ ?_
    exact And.intro mRt_v (hK _ _ hI)
  have b36 : ∀ (f : mFn) (g : mGn), cI n e f0 f g → X 36 [(0, .inr 6)] [] f g := by
    intro f g  hI
    refine hX.1 1 _ rfl _ _ _ _ ?_
    refine And.intro (fun c9 => ?_) (fun c9 => ?_)
    · -- 72
      exact hX.2 _ _ [] _ _ _ mW0 (b72  _ _  hI)
    · -- on
      refine And.intro (fun c11 => ?_) (fun c11 => ?_)
      · -- 72
        exact hX.2 _ _ [] _ _ _ mW0 (b72  _ _  (cP0 hI (by decide +kernel)))
      · -- on
        refine And.intro (rg_in (rg_c (a := 63) (b := 63) (by decide +kernel)) (by decide +kernel)) ?_
        refine And.intro (rg_in (rg_c (a := 63) (b := 63) (by decide +kernel)) (by decide +kernel)) ?_
        exact hX.2 _ _ [] _ _ _ mW0 (b72  _ _  (gI_a0 (cP0 hI (by decide +kernel)) (by decide +kernel)))
  refine hX.1 0 _ rfl _ _ _ _ ?_
  refine And.intro (fun c13 => ?_) (fun c13 => ?_)
  · -- 36
    exact hX.2 _ _ [(0, .inr 6)] _ _ _ (mWc rfl mW0) (b36  _ _  hI)
  · -- on
    refine And.intro (fun c15 => ?_) (fun c15 => ?_)
    · -- 36
      exact hX.2 _ _ [(0, .inr 6)] _ _ _ (mWc rfl mW0) (b36  _ _  (cP0 hI (by decide +kernel)))
    · -- on
      refine And.intro (rg_in (rg_c (a := 63) (b := 63) (by decide +kernel)) (by decide +kernel)) ?_
      refine And.intro (rg_in (rg_c (a := 63) (b := 63) (by decide +kernel)) (by decide +kernel)) ?_
      exact hX.2 _ _ [(0, .inr 6)] _ _ _ (mWc rfl mW0) (b36  _ _  (gI_a0 (cP0 hI (by decide +kernel)) (by decide +kernel)))
def SPX3_burnPair (S : mSp) : Prop := ∀ (n e : Int) (f0 f : mFn) (g : mGn) (K : mKr) (x1 x2 : Int32), rg 0 2055 x1 → cI n e f0 f g → (∀ (y : Int32) (g' : mGn), y.toInt = min 2 (max 0 (2048 - x1.toInt)) → cI n e f0 f g' → K (some (.inl y)) f g') → S [.inr 3, .inl x1, .inl x2] f g K
set_option maxRecDepth 100000 in
set_option maxHeartbeats 4000000 in
theorem sfX3_burnPair : SPX3_burnPair spX3_burnPair := by
  intro n e f0 f g K x1 x2 hx1 hI hK
  refine ⟨rfl, fun X hX => ?_⟩
  have e48 : (2048 : Int32).toInt = 2048 := by decide
  have e1 : (1 : Int32).toInt = 1 := by decide
  have e0 : (0 : Int32).toInt = 0 := by decide
  have e01 : (0 + 1 : Int32).toInt = 1 := by decide
  unfold rg at hx1
  have es : (x1 + 1).toInt = x1.toInt + 1 := by
    rw [Int32.toInt_add, e1]; exact rg_bm (by omega) (by omega)
  have b46 : ∀ (a3 : Int32) (g : mGn), a3.toInt = min 2 (max 0 (2048 - x1.toInt)) → cI n e f0 f g → X 46 [(3, .inl a3)] [] f g := by
    intro a3 g ha3 hI
    refine hX.1 2 _ rfl _ _ _ _ ?_
    exact And.intro mRt_i (hK _ _ ha3 hI)
  have b22 : ∀ (a3 : Int32) (g : mGn), a3.toInt = min 1 (max 0 (2048 - x1.toInt)) → cI n e f0 f g → X 22 [(0, .inr 3), (1, .inl x1), (2, .inl x2), (3, .inl a3)] [] f g := by
    intro a3 g ha3 hI
    refine hX.1 1 _ rfl _ _ _ _ ?_
    refine And.intro (fun c5 => ?_) (fun c5 => ?_)
    · have d := Int32.le_iff_toInt_le.mp c5
      rw [es, e48] at d
      exact hX.2 _ _ [(3, .inl _)] _ _ _ (mWc rfl mW0) (b46 _ _ (by omega) hI)
    · have d := Int32.lt_iff_toInt_lt.mp (rg_nle c5)
      rw [es, e48] at d
      have ea : (a3 + 1).toInt = a3.toInt + 1 := by
        rw [Int32.toInt_add, e1]; exact rg_bm (by omega) (by omega)
      refine And.intro (rg_in (show rg 0 2047 _ from ⟨by rw [es]; omega, by rw [es]; omega⟩) (by decide +kernel)) ?_
      exact hX.2 _ _ [(3, .inl _)] _ _ _ (mWc rfl mW0) (b46 _ _ (by rw [ea]; omega) (gI_a0 hI (by decide +kernel)))
  refine hX.1 0 _ rfl _ _ _ _ ?_
  refine And.intro (fun c7 => ?_) (fun c7 => ?_)
  · have d := Int32.le_iff_toInt_le.mp c7
    rw [e48] at d
    exact hX.2 _ _ [(0, .inr 3), (1, .inl _), (2, .inl _), (3, .inl _)] _ _ _ (mWc rfl (mWc rfl (mWc rfl (mWc rfl mW0)))) (b22 _ _ (by rw [e0]; omega) hI)
  · have d := Int32.lt_iff_toInt_lt.mp (rg_nle c7)
    rw [e48] at d
    refine And.intro (rg_in (show rg 0 2047 _ from ⟨by omega, by omega⟩) (by decide +kernel)) ?_
    exact hX.2 _ _ [(0, .inr 3), (1, .inl _), (2, .inl _), (3, .inl _)] _ _ _ (mWc rfl (mWc rfl (mWc rfl (mWc rfl mW0)))) (b22 _ _ (by rw [e01]; omega) (gI_a0 hI (by decide +kernel)))
def SPX3_clear (S : mSp) : Prop := ∀ (n e : Int) (f0 f : mFn) (g : mGn) (K : mKr), cI n e f0 f g → (∀ (f' : mFn) (g' : mGn), cI n e f0 f' g' → K none f' g') → S [.inr 3] f g K
set_option maxRecDepth 100000 in
set_option maxHeartbeats 4000000 in
theorem sfX3_clear : SPX3_clear spX3_clear := by
  intro n e f0 f g K   hI hK
  refine ⟨rfl, fun X hX => ?_⟩
  refine hX.1 0 _ rfl _ _ _ _ ?_
  exact And.intro mRt_v (hK _ _ (cP0 (cP0 (cP0 hI (by decide +kernel)) (by decide +kernel)) (by decide +kernel)))
def SPX3_cycle (S : mSp) : Prop := ∀ (n e : Int) (f0 f : mFn) (g : mGn) (K : mKr), cI n e f0 f g → (∀ (f' : mFn) (g' : mGn), cI n e f0 f' g' → K none f' g') → S [.inr 3] f g K
set_option maxRecDepth 100000 in
set_option maxHeartbeats 4000000 in
theorem sfX3_cycle : SPX3_cycle spX3_cycle := by
  intro n e f0 f g K   hI hK
  refine ⟨rfl, fun X hX => ?_⟩
  obtain ⟨S_X3_endCommand, k_X3_endCommand, hX⟩ : ∃ S_X3_endCommand, SPX3_endCommand S_X3_endCommand ∧ mR shC fdX3_cycle [(53, 0, 0, 6, S_X3_endCommand)] bsX3_cycle (fun r f g => mRt none r ∧ K r f g) X := ⟨spX3_endCommand, sfX3_endCommand, hX⟩
  have b56 : ∀ (f : mFn) (g : mGn), cI n e f0 f g → X 56 [] [] f g := by
    intro f g  hI
    refine hX.1 2 _ rfl _ _ _ _ ?_
    exact And.intro mRt_v (hK _ _ hI)
  have b28 : ∀ (f : mFn) (g : mGn), cI n e f0 f g → X 28 [(0, .inr 3)] [] f g := by
    intro f g  hI
    refine hX.1 1 _ rfl _ _ _ _ ?_
    refine And.intro (fun c13 => ?_) (fun c13 => ?_)
    · -- 56
      exact hX.2 _ _ [] _ _ _ mW0 (b56  _ _  hI)
    · -- on
      refine And.intro (fun c15 => ?_) (fun c15 => ?_)
      · -- 56
        exact hX.2 _ _ [] _ _ _ mW0 (b56  _ _  (cP0 hI (by decide +kernel)))
      · -- on
        refine k_X3_endCommand n e f0 _ _ _  (cP0 hI (by decide +kernel)) (fun f17 gf17 hI18 => ?_)
        exact hX.2 _ _ [] _ _ _ mW0 (b56  _ _  hI18)
  refine hX.1 0 _ rfl _ _ _ _ ?_
  refine And.intro (fun c19 => ?_) (fun c19 => ?_)
  · -- 28
    exact hX.2 _ _ [(0, .inr 3)] _ _ _ (mWc rfl mW0) (b28  _ _  hI)
  · -- on
    refine And.intro (fun c21 => ?_) (fun c21 => ?_)
    · -- 28
      exact hX.2 _ _ [(0, .inr 3)] _ _ _ (mWc rfl mW0) (b28  _ _  (cP0 hI (by decide +kernel)))
    · -- on
      refine k_X3_endCommand n e f0 _ _ _  (cP0 hI (by decide +kernel)) (fun f23 gf23 hI24 => ?_)
      exact hX.2 _ _ [(0, .inr 3)] _ _ _ (mWc rfl mW0) (b28  _ _  hI24)
def SPX4_clear (S : mSp) : Prop := ∀ (n e : Int) (f0 f : mFn) (g : mGn) (K : mKr), cI n e f0 f g → (∀ (f' : mFn) (g' : mGn), cI n e f0 f' g' → K none f' g') → S [.inr 5] f g K
set_option maxRecDepth 100000 in
set_option maxHeartbeats 4000000 in
theorem sfX4_clear : SPX4_clear spX4_clear := by
  intro n e f0 f g K   hI hK
  refine ⟨rfl, fun X hX => ?_⟩
  refine hX.1 0 _ rfl _ _ _ _ ?_
  refine And.intro (rg_01 (rg_c (a := 0) (b := 0) (by decide +kernel)) (by decide +kernel)) ?_
  refine And.intro (rg_in (rg_c (a := 192) (b := 192) (by decide +kernel)) (by decide +kernel)) ?_
  exact And.intro mRt_v (hK _ _ (gI_a0 (cP0 (cP0 (cS0 (cB0 hI)) (by decide +kernel)) (by decide +kernel)) (by decide +kernel)))
def SPX4_comeOn (S : mSp) : Prop := ∀ (n e : Int) (f0 f : mFn) (g : mGn) (K : mKr), cI n e f0 f g → (∀ (f' : mFn) (g' : mGn), cI n e f0 f' g' → K none f' g') → S [.inr 5] f g K
set_option maxRecDepth 100000 in
set_option maxHeartbeats 4000000 in
theorem sfX4_comeOn : SPX4_comeOn spX4_comeOn := by
  intro n e f0 f g K   hI hK
  refine ⟨rfl, fun X hX => ?_⟩
  have b31 : ∀ (f : mFn) (g : mGn), cI n e f0 f g → X 31 [] [] f g := by
    intro f g  hI
    refine hX.1 1 _ rfl _ _ _ _ ?_
    exact And.intro mRt_v (hK _ _ hI)
  have b80 : ∀ (f : mFn) (g : mGn), cI n e f0 f g → X 80 [(0, .inr 5)] [] f g := by
    intro f g  hI
    refine hX.1 5 _ rfl _ _ _ _ ?_
    refine And.intro (rg_in (rg_c (a := 192) (b := 192) (by decide +kernel)) (by decide +kernel)) ?_
    refine And.intro (rg_in (rg_c (a := 192) (b := 192) (by decide +kernel)) (by decide +kernel)) ?_
    exact And.intro mRt_v (hK _ _ (gI_a0 (cP0 hI (by decide +kernel)) (by decide +kernel)))
  refine hX.1 0 _ rfl _ _ _ _ ?_
  refine And.intro (fun c14 => ?_) (fun c14 => ?_)
  · -- 31
    exact hX.2 _ _ [] _ _ _ mW0 (b31  _ _  (cP0 hI (by decide +kernel)))
  · -- on
    refine And.intro (rg_in (rg_c (a := 193) (b := 193) (by decide +kernel)) (by decide +kernel)) ?_
    refine And.intro (fun c15 => ?_) (fun c15 => ?_)
    · -- 32
      refine hX.1 2 _ rfl _ _ _ _ ?_
      refine And.intro (fun c16 => ?_) (fun c16 => ?_)
      · -- 54
        refine hX.1 3 _ rfl _ _ _ _ ?_
        refine And.intro (fun c17 => ?_) (fun c17 => ?_)
        · -- 72
          refine hX.1 4 _ rfl _ _ _ _ ?_
          exact hX.2 _ _ [(0, .inr 5)] _ _ _ (mWc rfl mW0) (b80  _ _  (cP0 (cP0 hI (by decide +kernel)) (by decide +kernel)))
        · -- on
          exact hX.2 _ _ [(0, .inr 5)] _ _ _ (mWc rfl mW0) (b80  _ _  (cP0 (cP0 hI (by decide +kernel)) (by decide +kernel)))
      · -- on
        refine And.intro (rg_in (rg_c (a := 192) (b := 192) (by decide +kernel)) (by decide +kernel)) ?_
        refine And.intro (rg_in (rg_c (a := 192) (b := 192) (by decide +kernel)) (by decide +kernel)) ?_
        exact And.intro mRt_v (hK _ _ (gI_a0 (cP0 hI (by decide +kernel)) (by decide +kernel)))
    · -- on
      exact hX.2 _ _ [] _ _ _ mW0 (b31  _ _  (cP0 hI (by decide +kernel)))
def SPX4_sendOn (S : mSp) : Prop := ∀ (n e : Int) (f0 f : mFn) (g : mGn) (K : mKr), 0 < (f 329).toInt → cI n e f0 f g → (∀ (f' : mFn) (g' : mGn), cI n e f0 f' g' → K none f' g') → S [.inr 5] f g K
set_option maxRecDepth 100000 in
set_option maxHeartbeats 4000000 in
theorem sfX4_sendOn : SPX4_sendOn spX4_sendOn := by
  intro n e f0 f g K hE hI hK
  refine ⟨rfl, fun X hX => ?_⟩
  have b71 : ∀ (f : mFn) (g : mGn), cI n e f0 f g → X 71 [] [] f g := by
    intro  f g  hI
    refine hX.1 3 _ rfl _ _ _ _ ?_
    exact And.intro mRt_v (hK _ _ hI)
  have b41 : ∀ (f : mFn) (g : mGn), cI n e f0 (upd f 325 (f 325 + 1)) g → X 41 [(0, .inr 5)] [] f g := by
    intro f g hI
    refine hX.1 2 _ rfl _ _ _ _ ?_
    refine And.intro (fun c9 => ?_) (fun c9 => ?_)
    · exact hX.2 _ _ [] _ _ _ mW0 (b71 _ _ hI)
    · refine And.intro (rg_in (rg_c (a := 192) (b := 192) (by decide +kernel)) (by decide +kernel)) ?_
      refine And.intro (rg_in (rg_c (a := 192) (b := 192) (by decide +kernel)) (by decide +kernel)) ?_
      exact hX.2 _ _ [] _ _ _ mW0 (b71 _ _ (gI_a0 hI (by decide +kernel)))
  have hA := gI_s hI 3 325 0 2147483647 rfl
  refine hX.1 0 _ rfl _ _ _ _ ?_
  refine And.intro (fun c12 => ?_) (fun c12 => ?_)
  · have hz : f 329 - 1 ≤ 0 := c12
    refine hX.1 1 _ rfl _ _ _ _ ?_
    refine And.intro (fun c13 => ?_) (fun c13 => ?_)
    · exact hX.2 _ _ [(0, .inr 5)] _ _ _ (mWc rfl mW0) (b41 _ _ (cAr hI hE hz))
    · refine And.intro (rg_in (show rg 0 999 _ from (rg_lt hA (rg_c (a := 1000) (b := 1000) (by decide +kernel)) (rg_nle c13) (by decide +kernel))) (by decide +kernel)) ?_
      exact hX.2 _ _ [(0, .inr 5)] _ _ _ (mWc rfl mW0) (b41 _ _ (gI_a0 (cAr hI hE hz) (by decide +kernel)))
  · exact And.intro mRt_v (hK _ _ (cSd hI hE))
def SPX4_frame (S : mSp) : Prop := ∀ (n e : Int) (f0 f : mFn) (g : mGn) (K : mKr), cI n e f0 f g → (∀ (y : Int32), K (some (.inl y)) f g) → S [.inr 5] f g K
set_option maxRecDepth 100000 in
set_option maxHeartbeats 4000000 in
theorem sfX4_frame : SPX4_frame spX4_frame := by
  intro n e f0 f g K   hI hK
  refine ⟨rfl, fun X hX => ?_⟩
  have b48 : ∀ (s0 : Int32) (s1 : Int32), rg 80 160 s1 → X 48 [] [.inl s1, .inl s0] f g := by
    intro s0 s1 hs1
    refine hX.1 2 _ rfl _ _ _ _ ?_
    exact And.intro mRt_i (hK _ )
  refine hX.1 0 _ rfl _ _ _ _ ?_
  refine And.intro (rg_in (rg_c (a := 197) (b := 197) (by decide +kernel)) (by decide +kernel)) ?_
  refine And.intro (rg_in (rg_c (a := 196) (b := 196) (by decide +kernel)) (by decide +kernel)) ?_
  refine And.intro (rg_in (rg_c (a := 192) (b := 192) (by decide +kernel)) (by decide +kernel)) ?_
  refine And.intro (fun c2 => ?_) (fun c2 => ?_)
  · -- 45
    refine hX.1 1 _ rfl _ _ _ _ ?_
    exact hX.2 _ _ [] _ _ _ mW0 (b48 _ _ (rg_w (c := 80) (d := 160) (rg_c (a := 160) (b := 160) (by decide +kernel)) (by decide +kernel)))
  · -- on
    exact hX.2 _ _ [] _ _ _ mW0 (b48 _ _ (rg_w (c := 80) (d := 160) (rg_c (a := 80) (b := 80) (by decide +kernel)) (by decide +kernel)))
def SPX4_cycle (S : mSp) : Prop := ∀ (n e : Int) (f0 f : mFn) (g : mGn) (K : mKr), cI n e f0 f g → (∀ (f' : mFn) (g' : mGn), cI n e f0 f' g' → K none f' g') → S [.inr 5] f g K
set_option maxRecDepth 100000 in
set_option maxHeartbeats 4000000 in
theorem sfX4_cycle : SPX4_cycle spX4_cycle := by
  intro n e f0 f g K   hI hK
  refine ⟨rfl, fun X hX => ?_⟩
  obtain ⟨S_X4_sendOn, k_X4_sendOn, S_X4_frame, k_X4_frame, S_X4_comeOn, k_X4_comeOn, hX⟩ : ∃ S_X4_sendOn, SPX4_sendOn S_X4_sendOn ∧ ∃ S_X4_frame, SPX4_frame S_X4_frame ∧ ∃ S_X4_comeOn, SPX4_comeOn S_X4_comeOn ∧ mR shC fdX4_cycle [(50, 0, 0, 7, S_X4_sendOn), (56, 0, 0, 7, S_X4_frame), (60, 0, 0, 7, S_X4_comeOn)] bsX4_cycle (fun r f g => mRt none r ∧ K r f g) X := ⟨spX4_sendOn, sfX4_sendOn, spX4_frame, sfX4_frame, spX4_comeOn, sfX4_comeOn, hX⟩
  have b121 : ∀ (f : mFn) (g : mGn), cI n e f0 f g → X 121 [] [] f g := by
    intro  f g  hI
    refine hX.1 4 _ rfl _ _ _ _ ?_
    exact And.intro mRt_v (hK _ _ hI)
  have b55 : ∀ (f : mFn) (g : mGn), cI n e f0 f g → X 55 [(0, .inr 5)] [] f g := by
    intro  f g  hI
    refine hX.1 2 _ rfl _ _ _ _ ?_
    refine And.intro (fun c25 => ?_) (fun c25 => ?_)
    · -- 69
      refine hX.1 3 _ rfl _ _ _ _ ?_
      refine And.intro (fun c26 => ?_) (fun c26 => ?_)
      · -- 121
        exact hX.2 _ _ [] _ _ _ mW0 (b121  _ _  hI)
      · -- on
        refine And.intro (rg_in (gI_s hI 1 322 0 299 rfl) (by decide +kernel)) ?_
        refine k_X4_frame n _ f0 _ _ _   (cP0 hI (by decide +kernel)) (fun y28 => ?_)
        refine And.intro (by decide +kernel) ?_
        exact hX.2 _ _ [] _ _ _ mW0 (b121  _ _  (cP1 2 (rg_w (c := 0) (d := 300) (show rg 0 299 _ from (rg_sub (show rg 1 300 _ from (rg_gt (gI_s hI 2 323 0 300 rfl) (rg_c (a := 0) (b := 0) (by decide +kernel)) (rg_nle c26) (by decide +kernel))) (rg_c (a := 1) (b := 1) (by decide +kernel)) (by decide +kernel))) (by decide +kernel)) (cP1 1 (rg_w (c := 0) (d := 299) (show rg 0 299 _ from (rg_rem (show rg 1 300 _ from (rg_add (gI_s (cP0 (cP0 hI (by decide +kernel)) (by decide +kernel)) 1 322 0 299 rfl) (rg_c (a := 1) (b := 1) (by decide +kernel)) (by decide +kernel))) (rg_c (a := 300) (b := 300) (by decide +kernel)) (by decide +kernel))) (by decide +kernel)) (cP0 (cP0 hI (by decide +kernel)) (by decide +kernel)) (by decide +kernel)) (by decide +kernel)))
    · -- on
      refine k_X4_comeOn n _ f0 _ _ _  hI (fun f35 gf35 hI36 => ?_)
      exact hX.2 _ _ [] _ _ _ mW0 (b121  _ _  hI36)
  refine hX.1 0 _ rfl _ _ _ _ ?_
  refine And.intro (fun c37 => ?_) (fun c37 => ?_)
  · -- 14
    refine hX.1 1 _ rfl _ _ _ _ ?_
    refine And.intro (fun c38 => ?_) (fun c38 => ?_)
    · -- 55
      exact hX.2 _ _ [(0, .inr 5)] _ _ _ (mWc rfl mW0) (b55  _ _  hI)
    · -- on
      refine k_X4_frame n _ f0 _ _ _   (cP0 hI (by decide +kernel)) (fun y40 => ?_)
      refine And.intro (rg_01 (rg_c (a := 0) (b := 0) (by decide +kernel)) (by decide +kernel)) ?_
      refine And.intro (rg_in (rg_c (a := 192) (b := 192) (by decide +kernel)) (by decide +kernel)) ?_
      refine And.intro (rg_in (rg_c (a := 192) (b := 192) (by decide +kernel)) (by decide +kernel)) ?_
      exact hX.2 _ _ [(0, .inr 5)] _ _ _ (mWc rfl mW0) (b55  _ _  (gI_a0 (cCy hI c37 c38) (by decide +kernel)))
  · -- on
    refine k_X4_sendOn n _ f0 _ _ _   (rg_pos c37) hI (fun f47 gf47 hI48 => ?_)
    exact hX.2 _ _ [(0, .inr 5)] _ _ _ (mWc rfl mW0) (b55  _ _  hI48)
def SPX4_firstReceived (S : mSp) : Prop := ∀ (n e : Int) (f0 f : mFn) (g : mGn) (K : mKr), cI n e f0 f g → (∀ (y : Int32), K (some (.inl y)) f g) → S [.inr 5] f g K
set_option maxRecDepth 100000 in
set_option maxHeartbeats 4000000 in
theorem sfX4_firstReceived : SPX4_firstReceived spX4_firstReceived := by
  intro n e f0 f g K   hI hK
  refine ⟨rfl, fun X hX => ?_⟩
  have b15 : ∀ (s0 : Int32), X 15 [] [.inl s0] f g := by
    intro s0
    refine hX.1 2 _ rfl _ _ _ _ ?_
    exact And.intro mRt_i (hK _ )
  refine hX.1 0 _ rfl _ _ _ _ ?_
  refine And.intro (fun c2 => ?_) (fun c2 => ?_)
  · -- 14
    refine hX.1 1 _ rfl _ _ _ _ ?_
    exact hX.2 _ _ [] _ _ _ mW0 (b15 _ )
  · -- on
    exact hX.2 _ _ [] _ _ _ mW0 (b15 _ )
def SPX4_queue (S : mSp) : Prop := ∀ (n e : Int) (f0 f : mFn) (g : mGn) (K : mKr) (x1 : Int32), rg 0 255 x1 → cI n e f0 f g → (∀ (y : Int32) (f' : mFn) (g' : mGn), rg (-1) 300 y → cI n e f0 f' g' → K (some (.inl y)) f' g') → S [.inr 5, .inl x1] f g K
set_option maxRecDepth 100000 in
set_option maxHeartbeats 4000000 in
theorem sfX4_queue : SPX4_queue spX4_queue := by
  intro n e f0 f g K x1 hx1 hI hK
  refine ⟨rfl, fun X hX => ?_⟩
  refine hX.1 0 _ rfl _ _ _ _ ?_
  refine And.intro (fun c4 => ?_) (fun c4 => ?_)
  · -- 12
    refine hX.1 1 _ rfl _ _ _ _ ?_
    refine And.intro (by decide +kernel) ?_
    refine And.intro (rg_in (show rg 0 299 _ from (rg_rem (show rg 0 598 _ from (rg_add (gI_s hI 1 322 0 299 rfl) (show rg 0 299 _ from (rg_lt (gI_s hI 2 323 0 300 rfl) (rg_c (a := 300) (b := 300) (by decide +kernel)) c4 (by decide +kernel))) (by decide +kernel))) (rg_c (a := 300) (b := 300) (by decide +kernel)) (by decide +kernel))) (by decide +kernel)) ?_
    exact And.intro mRt_i (hK _ _ _ (rg_w (c := (-1)) (d := 300) (gI_s (cP1 2 (rg_w (c := 0) (d := 300) (show rg 1 300 _ from (rg_add (show rg 0 299 _ from (rg_lt (gI_s hI 2 323 0 300 rfl) (rg_c (a := 300) (b := 300) (by decide +kernel)) c4 (by decide +kernel))) (rg_c (a := 1) (b := 1) (by decide +kernel)) (by decide +kernel))) (by decide +kernel)) hI (by decide +kernel)) 2 323 0 300 rfl) (by decide +kernel)) (cP1 2 (rg_w (c := 0) (d := 300) (show rg 1 300 _ from (rg_add (show rg 0 299 _ from (rg_lt (gI_s hI 2 323 0 300 rfl) (rg_c (a := 300) (b := 300) (by decide +kernel)) c4 (by decide +kernel))) (rg_c (a := 1) (b := 1) (by decide +kernel)) (by decide +kernel))) (by decide +kernel)) (gI_a0 hI (by decide +kernel)) (by decide +kernel)))
  · -- on
    exact And.intro mRt_i (hK _ _ _ (rg_w (c := (-1)) (d := 300) (rg_c (a := (-1)) (b := (-1)) (by decide +kernel)) (by decide +kernel)) hI)
def SPX7_clear (S : mSp) : Prop := ∀ (n e : Int) (f0 f : mFn) (g : mGn) (K : mKr), cI n e f0 f g → (∀ (f' : mFn) (g' : mGn), cI n e f0 f' g' → K none f' g') → S [.inr 7] f g K
set_option maxRecDepth 100000 in
set_option maxHeartbeats 4000000 in
theorem sfX7_clear : SPX7_clear spX7_clear := by
  intro n e f0 f g K   hI hK
  refine ⟨rfl, fun X hX => ?_⟩
  refine hX.1 0 _ rfl _ _ _ _ ?_
  refine And.intro (rg_in (rg_c (a := 84) (b := 84) (by decide +kernel)) (by decide +kernel)) ?_
  refine And.intro (rg_in (rg_c (a := 96) (b := 96) (by decide +kernel)) (by decide +kernel)) ?_
  exact And.intro mRt_v (hK _ _ (gI_a0 (cP0 (cP0 hI (by decide +kernel)) (by decide +kernel)) (by decide +kernel)))
def SPX5_clear (S : mSp) : Prop := ∀ (n e : Int) (f0 f : mFn) (g : mGn) (K : mKr) (x1 : Int32), rg 1 8 x1 → cI n e f0 f g → (∀ (f' : mFn) (g' : mGn), cI n e f0 f' g' → K none f' g') → S [.inr 1, .inl x1] f g K
set_option maxRecDepth 100000 in
set_option maxHeartbeats 4000000 in
theorem sfX5_clear : SPX5_clear spX5_clear := by
  intro n e f0 f g K x1 hx1 hI hK
  refine ⟨rfl, fun X hX => ?_⟩
  obtain ⟨S_J7_fill_53178, k_J7_fill_53178, S_J7_fill_fda19, k_J7_fill_fda19, S_X3_clear, k_X3_clear, S_X4_clear, k_X4_clear, S_X2_clear, k_X2_clear, S_X7_clear, k_X7_clear, hX⟩ : ∃ S_J7_fill_53178, SPJ7_fill_53178 S_J7_fill_53178 ∧ ∃ S_J7_fill_fda19, SPJ7_fill_fda19 S_J7_fill_fda19 ∧ ∃ S_X3_clear, SPX3_clear S_X3_clear ∧ ∃ S_X4_clear, SPX4_clear S_X4_clear ∧ ∃ S_X2_clear, SPX2_clear S_X2_clear ∧ ∃ S_X7_clear, SPX7_clear S_X7_clear ∧ mR shC fdX5_clear [(52, 1, 2, 0, S_J7_fill_53178), (58, 1, 4, 0, S_J7_fill_fda19), (68, 0, 0, 6, S_X3_clear), (71, 0, 0, 7, S_X4_clear), (72, 0, 0, 5, S_X2_clear), (73, 0, 0, 10, S_X7_clear)] bsX5_clear (fun r f g => mRt none r ∧ K r f g) X := ⟨spJ7_fill_53178, sfJ7_fill_53178, spJ7_fill_fda19, sfJ7_fill_fda19, spX3_clear, sfX3_clear, spX4_clear, sfX4_clear, spX2_clear, sfX2_clear, spX7_clear, sfX7_clear, hX⟩
  have b48 : ∀ (a2 : Int32) (f : mFn) (g : mGn), cI n e f0 f g → X 48 [(0, .inr 1), (2, .inl a2)] [] f g := by
    intro a2 f g  hI
    refine hX.1 4 _ rfl _ _ _ _ ?_
    refine And.intro (rg_in (rg_c (a := 84) (b := 84) (by decide +kernel)) (by decide +kernel)) ?_
    refine k_X3_clear n e f0 _ _ _  (cP0 (cP0 (gI_a0 hI (by decide +kernel)) (by decide +kernel)) (by decide +kernel)) (fun f28 gf28 hI29 => ?_)
    refine k_X4_clear n e f0 _ _ _  hI29 (fun f31 gf31 hI32 => ?_)
    refine k_X2_clear n e f0 _ _ _  hI32 (fun f34 gf34 hI35 => ?_)
    refine k_X7_clear n e f0 _ _ _  hI35 (fun f37 gf37 hI38 => ?_)
    exact And.intro mRt_v (hK _ _ hI38)
  have b18 : ∀ (a1 : Int32) (s0 : Int32) (f : mFn) (g : mGn), rg 1 8 a1 → cI n e f0 f g → X 18 [(0, .inr 1), (1, .inl a1)] [.inl s0] f g := by
    intro a1 s0 f g ha1 hI
    refine hX.1 2 _ rfl _ _ _ _ ?_
    refine And.intro (fun c39 => ?_) (fun c39 => ?_)
    · -- 35
      refine hX.1 3 _ rfl _ _ _ _ ?_
      refine k_J7_fill_fda19 n e f0 _ _ _ 9 1280 _ _ _ (Or.inl ⟨rfl, rfl⟩) (by decide +kernel) (by decide +kernel) (by decide +kernel) hI (fun gf41 hI42 => ?_)
      exact hX.2 _ _ [(0, .inr 1), (2, .inl _)] _ _ _ (mWc rfl (mWc rfl mW0)) (b48 _ _ _  hI42)
    · -- on
      refine k_J7_fill_53178 n e f0 _ _ _ _ hI (fun gf44 hI45 => ?_)
      exact hX.2 _ _ [(0, .inr 1), (2, .inl _)] _ _ _ (mWc rfl (mWc rfl mW0)) (b48 _ _ _  hI45)
  refine hX.1 0 _ rfl _ _ _ _ ?_
  refine And.intro (fun c46 => ?_) (fun c46 => ?_)
  · -- 9
    refine hX.1 1 _ rfl _ _ _ _ ?_
    refine And.intro (rg_in (rg_c (a := 84) (b := 84) (by decide +kernel)) (by decide +kernel)) ?_
    exact hX.2 _ _ [(0, .inr 1), (1, .inl _)] _ _ _ (mWc rfl (mWc rfl mW0)) (b18 _ _ _ _ (rg_w (c := 1) (d := 8) (show rg 2 8 _ from (rg_neL hx1 (rg_c (a := 1) (b := 1) (by decide +kernel)) c46 (by decide +kernel))) (by decide +kernel)) hI)
  · -- on
    exact hX.2 _ _ [(0, .inr 1), (1, .inl _)] _ _ _ (mWc rfl (mWc rfl mW0)) (b18 _ _ _ _ (rg_w (c := 1) (d := 8) (show rg 1 1 _ from (rg_eq (rg_c (a := 1) (b := 1) (by decide +kernel)) c46)) (by decide +kernel)) hI)
def SPX6_ticks (S : mSp) : Prop := ∀ (n e : Int) (f0 f : mFn) (g : mGn) (K : mKr) (x1 : Int32), rg 1 7 x1 → cI n e f0 f g → (∀ (y : Int32), rg 0 1 y → K (some (.inl y)) f g) → S [.inr 4, .inl x1] f g K
set_option maxRecDepth 100000 in
set_option maxHeartbeats 4000000 in
theorem sfX6_ticks : SPX6_ticks spX6_ticks := by
  intro n e f0 f g K x1 hx1 hI hK
  refine ⟨rfl, fun X hX => ?_⟩
  have b53 : ∀ (s0 : Int32), rg 0 1 s0 → X 53 [] [.inl s0] f g := by
    intro s0 hs0
    refine hX.1 4 _ rfl _ _ _ _ ?_
    exact And.intro (mRt_z (rg_01 hs0 (by decide +kernel))) (hK _ (rg_w (c := 0) (d := 1) hs0 (by decide +kernel)) )
  have b69 : ∀ (s0 : Int32), rg 0 1 s0 → X 69 [] [.inl s0] f g := by
    intro s0 hs0
    refine hX.1 7 _ rfl _ _ _ _ ?_
    exact And.intro (mRt_z (rg_01 hs0 (by decide +kernel))) (hK _ (rg_w (c := 0) (d := 1) hs0 (by decide +kernel)) )
  have b86 : ∀ (s0 : Int32), rg 0 1 s0 → X 86 [] [.inl s0] f g := by
    intro s0 hs0
    refine hX.1 10 _ rfl _ _ _ _ ?_
    exact And.intro (mRt_z (rg_01 hs0 (by decide +kernel))) (hK _ (rg_w (c := 0) (d := 1) hs0 (by decide +kernel)) )
  have b99 : ∀ (s0 : Int32), rg 0 1 s0 → X 99 [] [.inl s0] f g := by
    intro s0 hs0
    refine hX.1 13 _ rfl _ _ _ _ ?_
    exact And.intro (mRt_z (rg_01 hs0 (by decide +kernel))) (hK _ (rg_w (c := 0) (d := 1) hs0 (by decide +kernel)) )
  refine hX.1 0 _ rfl _ _ _ _ ?_
  refine And.intro (fun c10 => ?_) (fun c10 => ?_)
  · -- 36
    refine hX.1 1 _ rfl _ _ _ _ ?_
    exact And.intro (mRt_z (rg_01 (rg_c (a := 1) (b := 1) (by decide +kernel)) (by decide +kernel))) (hK _ (rg_w (c := 0) (d := 1) (rg_c (a := 1) (b := 1) (by decide +kernel)) (by decide +kernel)) )
  · -- on
    refine And.intro (fun c11 => ?_) (fun c11 => ?_)
    · -- 38
      refine hX.1 2 _ rfl _ _ _ _ ?_
      refine And.intro (fun c12 => ?_) (fun c12 => ?_)
      · -- 52
        refine hX.1 3 _ rfl _ _ _ _ ?_
        exact hX.2 _ _ [] _ _ _ mW0 (b53 _ (rg_w (c := 0) (d := 1) (rg_c (a := 0) (b := 0) (by decide +kernel)) (by decide +kernel)))
      · -- on
        exact hX.2 _ _ [] _ _ _ mW0 (b53 _ (rg_w (c := 0) (d := 1) (rg_c (a := 1) (b := 1) (by decide +kernel)) (by decide +kernel)))
    · -- on
      refine And.intro (fun c13 => ?_) (fun c13 => ?_)
      · -- 54
        refine hX.1 5 _ rfl _ _ _ _ ?_
        refine And.intro (fun c14 => ?_) (fun c14 => ?_)
        · -- 68
          refine hX.1 6 _ rfl _ _ _ _ ?_
          exact hX.2 _ _ [] _ _ _ mW0 (b69 _ (rg_w (c := 0) (d := 1) (rg_c (a := 0) (b := 0) (by decide +kernel)) (by decide +kernel)))
        · -- on
          exact hX.2 _ _ [] _ _ _ mW0 (b69 _ (rg_w (c := 0) (d := 1) (rg_c (a := 1) (b := 1) (by decide +kernel)) (by decide +kernel)))
      · -- on
        refine And.intro (fun c15 => ?_) (fun c15 => ?_)
        · -- 70
          refine hX.1 8 _ rfl _ _ _ _ ?_
          refine And.intro (fun c16 => ?_) (fun c16 => ?_)
          · -- 85
            refine hX.1 9 _ rfl _ _ _ _ ?_
            exact hX.2 _ _ [] _ _ _ mW0 (b86 _ (rg_w (c := 0) (d := 1) (rg_c (a := 0) (b := 0) (by decide +kernel)) (by decide +kernel)))
          · -- on
            exact hX.2 _ _ [] _ _ _ mW0 (b86 _ (rg_w (c := 0) (d := 1) (rg_c (a := 1) (b := 1) (by decide +kernel)) (by decide +kernel)))
        · -- on
          refine And.intro (fun c17 => ?_) (fun c17 => ?_)
          · -- 87
            refine hX.1 11 _ rfl _ _ _ _ ?_
            refine And.intro (fun c18 => ?_) (fun c18 => ?_)
            · -- 98
              refine hX.1 12 _ rfl _ _ _ _ ?_
              exact hX.2 _ _ [] _ _ _ mW0 (b99 _ (rg_w (c := 0) (d := 1) (rg_c (a := 0) (b := 0) (by decide +kernel)) (by decide +kernel)))
            · -- on
              exact hX.2 _ _ [] _ _ _ mW0 (b99 _ (rg_w (c := 0) (d := 1) (rg_c (a := 1) (b := 1) (by decide +kernel)) (by decide +kernel)))
          · -- on
            refine hX.1 14 _ rfl _ _ _ _ ?_
            exact And.intro (mRt_z (rg_01 (rg_c (a := 0) (b := 0) (by decide +kernel)) (by decide +kernel))) (hK _ (rg_w (c := 0) (d := 1) (rg_c (a := 0) (b := 0) (by decide +kernel)) (by decide +kernel)) )
def SPX6_tick (S : mSp) : Prop := ∀ (n e : Int) (f0 f : mFn) (g : mGn) (K : mKr), cI n e f0 f g → (∀ (f' : mFn) (g' : mGn), cI n e f0 f' g' → K none f' g') → S [.inr 4] f g K
set_option maxRecDepth 100000 in
set_option maxHeartbeats 4000000 in
theorem sfX6_tick : SPX6_tick spX6_tick := by
  intro n e f0 f g K   hI hK
  refine ⟨rfl, fun X hX => ?_⟩
  have b89 : ∀ (f : mFn) (g : mGn), cI n e f0 f g → X 89 [] [] f g := by
    intro f g  hI
    refine hX.1 3 _ rfl _ _ _ _ ?_
    exact And.intro mRt_v (hK _ _ hI)
  have b59 : ∀ (a1 : Int32) (f : mFn) (g : mGn), rg 0 255 a1 → cI n e f0 f g → X 59 [(0, .inr 4), (1, .inl a1)] [] f g := by
    intro a1 f g ha1 hI
    refine hX.1 2 _ rfl _ _ _ _ ?_
    refine And.intro (rg_in (rg_c (a := 70) (b := 70) (by decide +kernel)) (by decide +kernel)) ?_
    refine And.intro (rg_in (rg_c (a := 71) (b := 71) (by decide +kernel)) (by decide +kernel)) ?_
    refine And.intro (fun c9 => ?_) (fun c9 => ?_)
    · -- 89
      exact hX.2 _ _ [] _ _ _ mW0 (b89  _ _  (gI_a0 hI (by decide +kernel)))
    · -- on
      refine And.intro (rg_in (rg_c (a := 53) (b := 53) (by decide +kernel)) (by decide +kernel)) ?_
      refine And.intro (rg_in (rg_c (a := 53) (b := 53) (by decide +kernel)) (by decide +kernel)) ?_
      exact hX.2 _ _ [] _ _ _ mW0 (b89  _ _  (gI_a0 (gI_a0 hI (by decide +kernel)) (by decide +kernel)))
  have b36 : ∀ (a1 : Int32) (f : mFn) (g : mGn), cI n e f0 f g → X 36 [(0, .inr 4), (1, .inl a1)] [] f g := by
    intro a1 f g  hI
    refine hX.1 1 _ rfl _ _ _ _ ?_
    refine And.intro (fun c11 => ?_) (fun c11 => ?_)
    · -- 59
      exact hX.2 _ _ [(0, .inr 4), (1, .inl _)] _ _ _ (mWc rfl (mWc rfl mW0)) (b59 _ _ _ (rg_w (c := 0) (d := 255) (show rg 1 255 _ from (rg_neL (show rg 0 255 _ from (rg_andR (rg_c (a := 255) (b := 255) (by decide +kernel)) (by decide +kernel))) (rg_c (a := 0) (b := 0) (by decide +kernel)) c11 (by decide +kernel))) (by decide +kernel)) hI)
    · -- on
      refine And.intro (rg_in (rg_c (a := 53) (b := 53) (by decide +kernel)) (by decide +kernel)) ?_
      refine And.intro (rg_in (rg_c (a := 53) (b := 53) (by decide +kernel)) (by decide +kernel)) ?_
      exact hX.2 _ _ [(0, .inr 4), (1, .inl _)] _ _ _ (mWc rfl (mWc rfl mW0)) (b59 _ _ _ (rg_w (c := 0) (d := 255) (show rg 0 0 _ from (rg_eq (rg_c (a := 0) (b := 0) (by decide +kernel)) c11)) (by decide +kernel)) (gI_a0 hI (by decide +kernel)))
  refine hX.1 0 _ rfl _ _ _ _ ?_
  refine And.intro (rg_in (rg_c (a := 70) (b := 70) (by decide +kernel)) (by decide +kernel)) ?_
  refine And.intro (rg_in (rg_c (a := 68) (b := 68) (by decide +kernel)) (by decide +kernel)) ?_
  refine And.intro (fun c13 => ?_) (fun c13 => ?_)
  · -- 36
    exact hX.2 _ _ [(0, .inr 4), (1, .inl _)] _ _ _ (mWc rfl (mWc rfl mW0)) (b36 _ _ _  hI)
  · -- on
    refine And.intro (rg_in (rg_c (a := 71) (b := 71) (by decide +kernel)) (by decide +kernel)) ?_
    refine And.intro (fun c14 => ?_) (fun c14 => ?_)
    · -- 36
      exact hX.2 _ _ [(0, .inr 4), (1, .inl _)] _ _ _ (mWc rfl (mWc rfl mW0)) (b36 _ _ _  hI)
    · -- on
      exact hX.2 _ _ [(0, .inr 4), (1, .inl _)] _ _ _ (mWc rfl (mWc rfl mW0)) (b59 _ _ _ (rg_w (c := 0) (d := 255) (rg_c (a := 0) (b := 0) (by decide +kernel)) (by decide +kernel)) hI)
def SPX6_cycle (S : mSp) : Prop := ∀ (n e : Int) (f0 f : mFn) (g : mGn) (K : mKr), cI n e f0 f g → (∀ (f' : mFn) (g' : mGn), cI n e f0 f' g' → K none f' g') → S [.inr 4] f g K
set_option maxRecDepth 100000 in
set_option maxHeartbeats 4000000 in
theorem sfX6_cycle : SPX6_cycle spX6_cycle := by
  intro n e f0 f g K   hI hK
  refine ⟨rfl, fun X hX => ?_⟩
  obtain ⟨S_X6_ticks, k_X6_ticks, S_X6_tick, k_X6_tick, hX⟩ : ∃ S_X6_ticks, SPX6_ticks S_X6_ticks ∧ ∃ S_X6_tick, SPX6_tick S_X6_tick ∧ mR shC fdX6_cycle [(19, 0, 1, 9, S_X6_ticks), (23, 0, 0, 9, S_X6_tick)] bsX6_cycle (fun r f g => mRt none r ∧ K r f g) X := ⟨spX6_ticks, sfX6_ticks, spX6_tick, sfX6_tick, hX⟩
  have b41 : ∀ (f : mFn) (g : mGn), cI n e f0 f g → X 41 [] [] f g := by
    intro f g  hI
    refine hX.1 1 _ rfl _ _ _ _ ?_
    exact And.intro mRt_v (hK _ _ hI)
  refine hX.1 0 _ rfl _ _ _ _ ?_
  refine And.intro (rg_in (rg_c (a := 69) (b := 69) (by decide +kernel)) (by decide +kernel)) ?_
  refine And.intro (fun c11 => ?_) (fun c11 => ?_)
  · -- 41
    exact hX.2 _ _ [] _ _ _ mW0 (b41  _ _  (cP0 hI (by decide +kernel)))
  · -- on
    refine k_X6_ticks n e f0 _ _ _ _ (rg_w (c := 1) (d := 7) (show rg 1 7 _ from (rg_neL (show rg 0 7 _ from (rg_andR (rg_c (a := 7) (b := 7) (by decide +kernel)) (by decide +kernel))) (rg_c (a := 0) (b := 0) (by decide +kernel)) c11 (by decide +kernel))) (by decide +kernel)) (cP0 hI (by decide +kernel)) (fun y12 hy12 => ?_)
    refine And.intro (fun c15 => ?_) (fun c15 => ?_)
    · -- 41
      exact hX.2 _ _ [] _ _ _ mW0 (b41  _ _  (cP0 hI (by decide +kernel)))
    · -- on
      refine k_X6_tick n e f0 _ _ _  (cP0 hI (by decide +kernel)) (fun f17 gf17 hI18 => ?_)
      exact hX.2 _ _ [] _ _ _ mW0 (b41  _ _  hI18)
