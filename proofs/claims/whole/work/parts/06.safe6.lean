def SPX9_pairs (S : mSp) : Prop := ∀ (n e : Int) (f0 f : mFn) (g : mGn) (K : mKr) (x1 : Int32), rg 0 65535 x1 → rI n e f0 f g → (∀ (y : Int32) (f' : mFn) (g' : mGn), rg 2 2 y → rI n e f0 f' g' → K (some (.inl y)) f' g') → S [.inr 0, .inl x1] f g K
set_option maxRecDepth 100000 in
set_option maxHeartbeats 4000000 in
theorem sfX9_pairs : SPX9_pairs spX9_pairs := by
  intro n e f0 f g K x1 hx1 hI hK
  refine ⟨rfl, fun X hX => ?_⟩
  obtain ⟨S_X9_pointer, k_X9_pointer, S_X9_setPointer, k_X9_setPointer, S_X9_setFlag, k_X9_setFlag, S_X9_flag, k_X9_flag, hX⟩ : ∃ S_X9_pointer, SPX9_pointer S_X9_pointer ∧ ∃ S_X9_setPointer, SPX9_setPointer S_X9_setPointer ∧ ∃ S_X9_setFlag, SPX9_setFlag S_X9_setFlag ∧ ∃ S_X9_flag, SPX9_flag S_X9_flag ∧ mR shM fdX9_pairs [(231, 0, 1, 12, S_X9_pointer), (238, 0, 2, 12, S_X9_setPointer), (172, 0, 2, 12, S_X9_setFlag), (163, 0, 1, 12, S_X9_flag)] bsX9_pairs (fun r f g => mRt (some .int) r ∧ K r f g) X := ⟨spX9_pointer, sfX9_pointer, spX9_setPointer, sfX9_setPointer, spX9_setFlag, sfX9_setFlag, spX9_flag, sfX9_flag, hX⟩
  have b218 : ∀ (s1 : Int32) (s2 : Int32) (f : mFn) (g : mGn), rg 4 4 s1 → rg 0 1 s2 → rI n e f0 f g → X 218 [] [.inl s2, .inl s1, .inr 0] f g := by
    intro s1 s2 f g hs1 hs2 hI
    refine hX.1 18 _ rfl _ _ _ _ ?_
    refine k_X9_setFlag n e f0 _ _ _ _ _ (rg_w (c := 0) (d := 7) hs1 (by decide +kernel)) (rg_w (c := 0) (d := 1) hs2 (by decide +kernel)) hI (fun f42 gf42 hI43 => ?_)
    exact And.intro mRt_i (hK _ _ _ (rg_w (c := 2) (d := 2) (rg_c (a := 2) (b := 2) (by decide +kernel)) (by decide +kernel)) hI43)
  have b195 : ∀ (s1 : Int32) (s2 : Int32) (f : mFn) (g : mGn), rg 1 1 s1 → rg 0 1 s2 → rI n e f0 f g → X 195 [(0, .inr 0)] [.inl s2, .inl s1, .inr 0] f g := by
    intro s1 s2 f g hs1 hs2 hI
    refine hX.1 16 _ rfl _ _ _ _ ?_
    refine k_X9_setFlag n e f0 _ _ _ _ _ (rg_w (c := 0) (d := 7) hs1 (by decide +kernel)) (rg_w (c := 0) (d := 1) hs2 (by decide +kernel)) hI (fun f45 gf45 hI46 => ?_)
    refine k_X9_flag n e f0 _ _ _ _ (rg_w (c := 0) (d := 7) (rg_c (a := 2) (b := 2) (by decide +kernel)) (by decide +kernel)) hI46 (fun y47 hy47 => ?_)
    refine k_X9_flag n e f0 _ _ _ _ (rg_w (c := 0) (d := 7) (rg_c (a := 3) (b := 3) (by decide +kernel)) (by decide +kernel)) hI46 (fun y50 hy50 => ?_)
    refine And.intro (fun c53 => ?_) (fun c53 => ?_)
    · -- 217
      refine hX.1 17 _ rfl _ _ _ _ ?_
      exact hX.2 _ _ [] _ _ _ mW0 (b218 _ _ _ _ (rg_w (c := 4) (d := 4) (rg_c (a := 4) (b := 4) (by decide +kernel)) (by decide +kernel)) (rg_w (c := 0) (d := 1) (rg_c (a := 0) (b := 0) (by decide +kernel)) (by decide +kernel)) hI46)
    · -- on
      exact hX.2 _ _ [] _ _ _ mW0 (b218 _ _ _ _ (rg_w (c := 4) (d := 4) (rg_c (a := 4) (b := 4) (by decide +kernel)) (by decide +kernel)) (rg_w (c := 0) (d := 1) (rg_c (a := 1) (b := 1) (by decide +kernel)) (by decide +kernel)) hI46)
  have b180 : ∀ (a6 : Int32) (s1 : Int32) (s2 : Int32) (f : mFn) (g : mGn), rg 0 65535 a6 → rg 2 2 s1 → rg 0 1 s2 → rI n e f0 f g → X 180 [(0, .inr 0), (6, .inl a6)] [.inl s2, .inl s1, .inr 0] f g := by
    intro a6 s1 s2 f g ha6 hs1 hs2 hI
    refine hX.1 14 _ rfl _ _ _ _ ?_
    refine k_X9_setFlag n e f0 _ _ _ _ _ (rg_w (c := 0) (d := 7) hs1 (by decide +kernel)) (rg_w (c := 0) (d := 1) hs2 (by decide +kernel)) hI (fun f55 gf55 hI56 => ?_)
    refine And.intro (fun c57 => ?_) (fun c57 => ?_)
    · -- 194
      refine hX.1 15 _ rfl _ _ _ _ ?_
      exact hX.2 _ _ [(0, .inr 0)] _ _ _ (mWc rfl mW0) (b195 _ _ _ _ (rg_w (c := 1) (d := 1) (rg_c (a := 1) (b := 1) (by decide +kernel)) (by decide +kernel)) (rg_w (c := 0) (d := 1) (rg_c (a := 0) (b := 0) (by decide +kernel)) (by decide +kernel)) hI56)
    · -- on
      exact hX.2 _ _ [(0, .inr 0)] _ _ _ (mWc rfl mW0) (b195 _ _ _ _ (rg_w (c := 1) (d := 1) (rg_c (a := 1) (b := 1) (by decide +kernel)) (by decide +kernel)) (rg_w (c := 0) (d := 1) (rg_c (a := 1) (b := 1) (by decide +kernel)) (by decide +kernel)) hI56)
  have b162 : ∀ (a6 : Int32) (s1 : Int32) (s2 : Int32) (f : mFn) (g : mGn), rg 0 65535 a6 → rg 3 3 s1 → rg 0 1 s2 → rI n e f0 f g → X 162 [(0, .inr 0), (6, .inl a6)] [.inl s2, .inl s1, .inr 0] f g := by
    intro a6 s1 s2 f g ha6 hs1 hs2 hI
    refine hX.1 12 _ rfl _ _ _ _ ?_
    refine k_X9_setFlag n e f0 _ _ _ _ _ (rg_w (c := 0) (d := 7) hs1 (by decide +kernel)) (rg_w (c := 0) (d := 1) hs2 (by decide +kernel)) hI (fun f59 gf59 hI60 => ?_)
    refine And.intro (fun c61 => ?_) (fun c61 => ?_)
    · -- 179
      refine hX.1 13 _ rfl _ _ _ _ ?_
      exact hX.2 _ _ [(0, .inr 0), (6, .inl _)] _ _ _ (mWc rfl (mWc rfl mW0)) (b180 _ _ _ _ _ (rg_w (c := 0) (d := 65535) (show rg 0 32767 _ from (rg_lt ha6 (rg_c (a := 32768) (b := 32768) (by decide +kernel)) c61 (by decide +kernel))) (by decide +kernel)) (rg_w (c := 2) (d := 2) (rg_c (a := 2) (b := 2) (by decide +kernel)) (by decide +kernel)) (rg_w (c := 0) (d := 1) (rg_c (a := 0) (b := 0) (by decide +kernel)) (by decide +kernel)) hI60)
    · -- on
      exact hX.2 _ _ [(0, .inr 0), (6, .inl _)] _ _ _ (mWc rfl (mWc rfl mW0)) (b180 _ _ _ _ _ (rg_w (c := 0) (d := 65535) (show rg 32768 65535 _ from (rg_ge ha6 (rg_c (a := 32768) (b := 32768) (by decide +kernel)) (rg_nlt c61) (by decide +kernel))) (by decide +kernel)) (rg_w (c := 2) (d := 2) (rg_c (a := 2) (b := 2) (by decide +kernel)) (by decide +kernel)) (rg_w (c := 0) (d := 1) (rg_c (a := 1) (b := 1) (by decide +kernel)) (by decide +kernel)) hI60)
  have b137 : ∀ (a6 : Int32) (s1 : Int32) (f : mFn) (g : mGn), rg 0 65535 a6 → rg 3 3 s1 → rI n e f0 f g → X 137 [(0, .inr 0), (6, .inl a6)] [.inl s1, .inr 0] f g := by
    intro a6 s1 f g ha6 hs1 hI
    refine hX.1 9 _ rfl _ _ _ _ ?_
    exact hX.2 _ _ [(0, .inr 0), (6, .inl _)] _ _ _ (mWc rfl (mWc rfl mW0)) (b162 _ _ _ _ _ (rg_w (c := 0) (d := 65535) ha6 (by decide +kernel)) (rg_w (c := 3) (d := 3) hs1 (by decide +kernel)) (rg_w (c := 0) (d := 1) (rg_c (a := 0) (b := 0) (by decide +kernel)) (by decide +kernel)) hI)
  have b161 : ∀ (a6 : Int32) (s1 : Int32) (f : mFn) (g : mGn), rg 0 65535 a6 → rg 3 3 s1 → rI n e f0 f g → X 161 [(0, .inr 0), (6, .inl a6)] [.inl s1, .inr 0] f g := by
    intro a6 s1 f g ha6 hs1 hI
    refine hX.1 11 _ rfl _ _ _ _ ?_
    exact hX.2 _ _ [(0, .inr 0), (6, .inl _)] _ _ _ (mWc rfl (mWc rfl mW0)) (b162 _ _ _ _ _ (rg_w (c := 0) (d := 65535) ha6 (by decide +kernel)) (rg_w (c := 3) (d := 3) hs1 (by decide +kernel)) (rg_w (c := 0) (d := 1) (rg_c (a := 0) (b := 0) (by decide +kernel)) (by decide +kernel)) hI)
  have b107 : ∀ (a4 : Int32) (a5 : Int32) (a6 : Int32) (s1 : Int32) (s2 : Int32) (f : mFn) (g : mGn), rg 0 65535 a4 → rg 0 1 a5 → rg 0 65535 a6 → rg 0 0 s1 → rg 0 1 s2 → rI n e f0 f g → X 107 [(0, .inr 0), (4, .inl a4), (5, .inl a5), (6, .inl a6)] [.inl s2, .inl s1, .inr 0] f g := by
    intro a4 a5 a6 s1 s2 f g ha4 ha5 ha6 hs1 hs2 hI
    refine hX.1 8 _ rfl _ _ _ _ ?_
    refine k_X9_setFlag n e f0 _ _ _ _ _ (rg_w (c := 0) (d := 7) hs1 (by decide +kernel)) (rg_w (c := 0) (d := 1) hs2 (by decide +kernel)) hI (fun f63 gf63 hI64 => ?_)
    refine And.intro (fun c65 => ?_) (fun c65 => ?_)
    · -- 141
      refine hX.1 10 _ rfl _ _ _ _ ?_
      refine And.intro (fun c66 => ?_) (fun c66 => ?_)
      · -- 161
        exact hX.2 _ _ [(0, .inr 0), (6, .inl _)] _ _ _ (mWc rfl (mWc rfl mW0)) (b161 _ _ _ _ (rg_w (c := 0) (d := 65535) ha6 (by decide +kernel)) (rg_w (c := 3) (d := 3) (rg_c (a := 3) (b := 3) (by decide +kernel)) (by decide +kernel)) hI64)
      · -- on
        refine And.intro (fun c67 => ?_) (fun c67 => ?_)
        · -- 161
          exact hX.2 _ _ [(0, .inr 0), (6, .inl _)] _ _ _ (mWc rfl (mWc rfl mW0)) (b161 _ _ _ _ (rg_w (c := 0) (d := 65535) (show rg 32768 65535 _ from (rg_ge ha6 (rg_c (a := 32768) (b := 32768) (by decide +kernel)) c67 (by decide +kernel))) (by decide +kernel)) (rg_w (c := 3) (d := 3) (rg_c (a := 3) (b := 3) (by decide +kernel)) (by decide +kernel)) hI64)
        · -- on
          exact hX.2 _ _ [(0, .inr 0), (6, .inl _)] _ _ _ (mWc rfl (mWc rfl mW0)) (b162 _ _ _ _ _ (rg_w (c := 0) (d := 65535) (show rg 0 32767 _ from (rg_lt ha6 (rg_c (a := 32768) (b := 32768) (by decide +kernel)) (rg_nle c67) (by decide +kernel))) (by decide +kernel)) (rg_w (c := 3) (d := 3) (rg_c (a := 3) (b := 3) (by decide +kernel)) (by decide +kernel)) (rg_w (c := 0) (d := 1) (rg_c (a := 1) (b := 1) (by decide +kernel)) (by decide +kernel)) hI64)
    · -- on
      refine And.intro (fun c68 => ?_) (fun c68 => ?_)
      · -- 137
        exact hX.2 _ _ [(0, .inr 0), (6, .inl _)] _ _ _ (mWc rfl (mWc rfl mW0)) (b137 _ _ _ _ (rg_w (c := 0) (d := 65535) ha6 (by decide +kernel)) (rg_w (c := 3) (d := 3) (rg_c (a := 3) (b := 3) (by decide +kernel)) (by decide +kernel)) hI64)
      · -- on
        refine And.intro (fun c69 => ?_) (fun c69 => ?_)
        · -- 137
          exact hX.2 _ _ [(0, .inr 0), (6, .inl _)] _ _ _ (mWc rfl (mWc rfl mW0)) (b137 _ _ _ _ (rg_w (c := 0) (d := 65535) (show rg 0 32767 _ from (rg_lt ha6 (rg_c (a := 32768) (b := 32768) (by decide +kernel)) c69 (by decide +kernel))) (by decide +kernel)) (rg_w (c := 3) (d := 3) (rg_c (a := 3) (b := 3) (by decide +kernel)) (by decide +kernel)) hI64)
        · -- on
          exact hX.2 _ _ [(0, .inr 0), (6, .inl _)] _ _ _ (mWc rfl (mWc rfl mW0)) (b162 _ _ _ _ _ (rg_w (c := 0) (d := 65535) (show rg 32768 65535 _ from (rg_ge ha6 (rg_c (a := 32768) (b := 32768) (by decide +kernel)) (rg_nlt c69) (by decide +kernel))) (by decide +kernel)) (rg_w (c := 3) (d := 3) (rg_c (a := 3) (b := 3) (by decide +kernel)) (by decide +kernel)) (rg_w (c := 0) (d := 1) (rg_c (a := 1) (b := 1) (by decide +kernel)) (by decide +kernel)) hI64)
  have b60 : ∀ (a2 : Int32) (a3 : Int32) (a4 : Int32) (a5 : Int32) (s0 : Int32) (f : mFn) (g : mGn), rg 24 30 a2 → rg 0 63 a3 → rg 0 65535 a4 → rg 0 1 a5 → rg (-63) 65598 s0 → rI n e f0 f g → X 60 [(0, .inr 0), (2, .inl a2), (3, .inl a3), (4, .inl a4), (5, .inl a5)] [.inl s0] f g := by
    intro a2 a3 a4 a5 s0 f g ha2 ha3 ha4 ha5 hs0 hI
    refine hX.1 4 _ rfl _ _ _ _ ?_
    refine k_X9_setPointer n e f0 _ _ _ _ _ (rg_w (c := 0) (d := 93) ha2 (by decide +kernel)) (rg_w (c := (-1)) (d := 65536) (show rg 0 65535 _ from (rg_andR (rg_c (a := 65535) (b := 65535) (by decide +kernel)) (by decide +kernel))) (by decide +kernel)) hI (fun f71 gf71 hI72 => ?_)
    refine And.intro (fun c73 => ?_) (fun c73 => ?_)
    · -- 96
      refine hX.1 6 _ rfl _ _ _ _ ?_
      refine And.intro (fun c74 => ?_) (fun c74 => ?_)
      · -- 106
        refine hX.1 7 _ rfl _ _ _ _ ?_
        exact hX.2 _ _ [(0, .inr 0), (4, .inl _), (5, .inl _), (6, .inl _)] _ _ _ (mWc rfl (mWc rfl (mWc rfl (mWc rfl mW0)))) (b107 _ _ _ _ _ _ _ (rg_w (c := 0) (d := 65535) ha4 (by decide +kernel)) (rg_w (c := 0) (d := 1) (show rg 0 0 _ from (rg_eq (rg_c (a := 0) (b := 0) (by decide +kernel)) c73)) (by decide +kernel)) (rg_w (c := 0) (d := 65535) (show rg 0 65535 _ from (rg_andR (rg_c (a := 65535) (b := 65535) (by decide +kernel)) (by decide +kernel))) (by decide +kernel)) (rg_w (c := 0) (d := 0) (rg_c (a := 0) (b := 0) (by decide +kernel)) (by decide +kernel)) (rg_w (c := 0) (d := 1) (rg_c (a := 0) (b := 0) (by decide +kernel)) (by decide +kernel)) hI72)
      · -- on
        exact hX.2 _ _ [(0, .inr 0), (4, .inl _), (5, .inl _), (6, .inl _)] _ _ _ (mWc rfl (mWc rfl (mWc rfl (mWc rfl mW0)))) (b107 _ _ _ _ _ _ _ (rg_w (c := 0) (d := 65535) (show rg 0 62 _ from (rg_lt ha4 ha3 (rg_nle c74) (by decide +kernel))) (by decide +kernel)) (rg_w (c := 0) (d := 1) (show rg 0 0 _ from (rg_eq (rg_c (a := 0) (b := 0) (by decide +kernel)) c73)) (by decide +kernel)) (rg_w (c := 0) (d := 65535) (show rg 0 65535 _ from (rg_andR (rg_c (a := 65535) (b := 65535) (by decide +kernel)) (by decide +kernel))) (by decide +kernel)) (rg_w (c := 0) (d := 0) (rg_c (a := 0) (b := 0) (by decide +kernel)) (by decide +kernel)) (rg_w (c := 0) (d := 1) (rg_c (a := 1) (b := 1) (by decide +kernel)) (by decide +kernel)) hI72)
    · -- on
      refine And.intro (fun c75 => ?_) (fun c75 => ?_)
      · -- 92
        refine hX.1 5 _ rfl _ _ _ _ ?_
        exact hX.2 _ _ [(0, .inr 0), (4, .inl _), (5, .inl _), (6, .inl _)] _ _ _ (mWc rfl (mWc rfl (mWc rfl (mWc rfl mW0)))) (b107 _ _ _ _ _ _ _ (rg_w (c := 0) (d := 65535) ha4 (by decide +kernel)) (rg_w (c := 0) (d := 1) (show rg 1 1 _ from (rg_neL ha5 (rg_c (a := 0) (b := 0) (by decide +kernel)) c73 (by decide +kernel))) (by decide +kernel)) (rg_w (c := 0) (d := 65535) (show rg 0 65535 _ from (rg_andR (rg_c (a := 65535) (b := 65535) (by decide +kernel)) (by decide +kernel))) (by decide +kernel)) (rg_w (c := 0) (d := 0) (rg_c (a := 0) (b := 0) (by decide +kernel)) (by decide +kernel)) (rg_w (c := 0) (d := 1) (rg_c (a := 0) (b := 0) (by decide +kernel)) (by decide +kernel)) hI72)
      · -- on
        exact hX.2 _ _ [(0, .inr 0), (4, .inl _), (5, .inl _), (6, .inl _)] _ _ _ (mWc rfl (mWc rfl (mWc rfl (mWc rfl mW0)))) (b107 _ _ _ _ _ _ _ (rg_w (c := 0) (d := 65535) ha4 (by decide +kernel)) (rg_w (c := 0) (d := 1) (show rg 1 1 _ from (rg_neL ha5 (rg_c (a := 0) (b := 0) (by decide +kernel)) c73 (by decide +kernel))) (by decide +kernel)) (rg_w (c := 0) (d := 65535) (show rg 0 65535 _ from (rg_andR (rg_c (a := 65535) (b := 65535) (by decide +kernel)) (by decide +kernel))) (by decide +kernel)) (rg_w (c := 0) (d := 0) (rg_c (a := 0) (b := 0) (by decide +kernel)) (by decide +kernel)) (rg_w (c := 0) (d := 1) (rg_c (a := 1) (b := 1) (by decide +kernel)) (by decide +kernel)) hI72)
  have b42 : ∀ (a2 : Int32) (a3 : Int32) (a4 : Int32) (s0 : Int32) (f : mFn) (g : mGn), rg 24 30 a2 → rg 0 63 a3 → rg 0 65535 a4 → rg 0 1 s0 → rI n e f0 f g → X 42 [(0, .inr 0), (2, .inl a2), (3, .inl a3), (4, .inl a4)] [.inl s0] f g := by
    intro a2 a3 a4 s0 f g ha2 ha3 ha4 hs0 hI
    refine hX.1 2 _ rfl _ _ _ _ ?_
    refine And.intro (fun c76 => ?_) (fun c76 => ?_)
    · -- 56
      refine hX.1 3 _ rfl _ _ _ _ ?_
      exact hX.2 _ _ [(0, .inr 0), (2, .inl _), (3, .inl _), (4, .inl _), (5, .inl _)] _ _ _ (mWc rfl (mWc rfl (mWc rfl (mWc rfl (mWc rfl mW0))))) (b60 _ _ _ _ _ _ _ (rg_w (c := 24) (d := 30) ha2 (by decide +kernel)) (rg_w (c := 0) (d := 63) ha3 (by decide +kernel)) (rg_w (c := 0) (d := 65535) ha4 (by decide +kernel)) (rg_w (c := 0) (d := 1) (show rg 0 0 _ from (rg_eq (rg_c (a := 0) (b := 0) (by decide +kernel)) c76)) (by decide +kernel)) (rg_w (c := (-63)) (d := 65598) (show rg (-63) 65535 _ from (rg_sub ha4 ha3 (by decide +kernel))) (by decide +kernel)) hI)
    · -- on
      exact hX.2 _ _ [(0, .inr 0), (2, .inl _), (3, .inl _), (4, .inl _), (5, .inl _)] _ _ _ (mWc rfl (mWc rfl (mWc rfl (mWc rfl (mWc rfl mW0))))) (b60 _ _ _ _ _ _ _ (rg_w (c := 24) (d := 30) ha2 (by decide +kernel)) (rg_w (c := 0) (d := 63) ha3 (by decide +kernel)) (rg_w (c := 0) (d := 65535) ha4 (by decide +kernel)) (rg_w (c := 0) (d := 1) (show rg 1 1 _ from (rg_neL hs0 (rg_c (a := 0) (b := 0) (by decide +kernel)) c76 (by decide +kernel))) (by decide +kernel)) (rg_w (c := (-63)) (d := 65598) (show rg 0 65598 _ from (rg_add ha4 ha3 (by decide +kernel))) (by decide +kernel)) hI)
  refine hX.1 0 _ rfl _ _ _ _ ?_
  refine k_X9_pointer n e f0 _ _ _ _ (rg_w (c := 0) (d := 93) (show rg 24 30 _ from (rg_add (rg_c (a := 24) (b := 24) (by decide +kernel)) (show rg 0 6 _ from (rg_andR (rg_c (a := 6) (b := 6) (by decide +kernel)) (by decide +kernel))) (by decide +kernel))) (by decide +kernel)) hI (fun y77 hy77 => ?_)
  refine And.intro (fun c80 => ?_) (fun c80 => ?_)
  · -- 41
    refine hX.1 1 _ rfl _ _ _ _ ?_
    exact hX.2 _ _ [(0, .inr 0), (2, .inl _), (3, .inl _), (4, .inl _)] _ _ _ (mWc rfl (mWc rfl (mWc rfl (mWc rfl mW0)))) (b42 _ _ _ _ _ _ (rg_w (c := 24) (d := 30) (show rg 24 30 _ from (rg_add (rg_c (a := 24) (b := 24) (by decide +kernel)) (show rg 0 6 _ from (rg_andR (rg_c (a := 6) (b := 6) (by decide +kernel)) (by decide +kernel))) (by decide +kernel))) (by decide +kernel)) (rg_w (c := 0) (d := 63) (show rg 0 63 _ from (rg_or (k := 6) (show rg 0 15 _ from (rg_andR (rg_c (a := 15) (b := 15) (by decide +kernel)) (by decide +kernel))) (show rg 0 48 _ from (rg_andR (rg_c (a := 48) (b := 48) (by decide +kernel)) (by decide +kernel))) (by decide +kernel))) (by decide +kernel)) (rg_w (c := 0) (d := 65535) hy77 (by decide +kernel)) (rg_w (c := 0) (d := 1) (rg_c (a := 0) (b := 0) (by decide +kernel)) (by decide +kernel)) hI)
  · -- on
    exact hX.2 _ _ [(0, .inr 0), (2, .inl _), (3, .inl _), (4, .inl _)] _ _ _ (mWc rfl (mWc rfl (mWc rfl (mWc rfl mW0)))) (b42 _ _ _ _ _ _ (rg_w (c := 24) (d := 30) (show rg 24 30 _ from (rg_add (rg_c (a := 24) (b := 24) (by decide +kernel)) (show rg 0 6 _ from (rg_andR (rg_c (a := 6) (b := 6) (by decide +kernel)) (by decide +kernel))) (by decide +kernel))) (by decide +kernel)) (rg_w (c := 0) (d := 63) (show rg 0 63 _ from (rg_or (k := 6) (show rg 0 15 _ from (rg_andR (rg_c (a := 15) (b := 15) (by decide +kernel)) (by decide +kernel))) (show rg 0 48 _ from (rg_andR (rg_c (a := 48) (b := 48) (by decide +kernel)) (by decide +kernel))) (by decide +kernel))) (by decide +kernel)) (rg_w (c := 0) (d := 65535) hy77 (by decide +kernel)) (rg_w (c := 0) (d := 1) (rg_c (a := 1) (b := 1) (by decide +kernel)) (by decide +kernel)) hI)
def SPX9_portBits (S : mSp) : Prop := ∀ (n e : Int) (f0 f : mFn) (g : mGn) (K : mKr) (x1 : Int32), rg 0 65535 x1 → n + 1 ≤ 300000000 → rI n e f0 f g → (∀ (y : Int32) (f' : mFn) (g' : mGn), rg 1 3 y → rI (n + 1) e f0 f' g' → K (some (.inl y)) f' g') → S [.inr 0, .inl x1] f g K
set_option maxRecDepth 100000 in
set_option maxHeartbeats 4000000 in
theorem sfX9_portBits : SPX9_portBits spX9_portBits := by
  intro n e f0 f g K x1 hx1 hB hI hK
  refine ⟨rfl, fun X hX => ?_⟩
  obtain ⟨S_X9_load, k_X9_load, S_X9_skips, k_X9_skips, S_X9_store, k_X9_store, hX⟩ : ∃ S_X9_load, SPX9_load S_X9_load ∧ ∃ S_X9_skips, SPX9_skips S_X9_skips ∧ ∃ S_X9_store, SPX9_store S_X9_store ∧ mR shM fdX9_portBits [(241, 0, 1, 12, S_X9_load), (299, 0, 0, 12, S_X9_skips), (234, 0, 2, 12, S_X9_store)] bsX9_portBits (fun r f g => mRt (some .int) r ∧ K r f g) X := ⟨spX9_load, sfX9_load, spX9_skips, sfX9_skips, spX9_store, sfX9_store, hX⟩
  have b70 : ∀ (s0 : Int32) (f : mFn) (g : mGn), rg 1 3 s0 → rI n e f0 f g → X 70 [] [.inl s0] f g := by
    intro s0 f g hs0 hI
    refine hX.1 6 _ rfl _ _ _ _ ?_
    exact And.intro mRt_i (hK _ _ _ (rg_w (c := 1) (d := 3) hs0 (by decide +kernel)) (rM hI (by omega) (by omega)))
  have b55 : ∀ (a4 : Int32) (s0 : Int32) (f : mFn) (g : mGn), rg 0 1 a4 → rg 0 1 s0 → rI n e f0 f g → X 55 [(0, .inr 0), (4, .inl a4)] [.inl s0] f g := by
    intro a4 s0 f g ha4 hs0 hI
    refine hX.1 4 _ rfl _ _ _ _ ?_
    refine And.intro (fun c24 => ?_) (fun c24 => ?_)
    · -- 69
      refine hX.1 5 _ rfl _ _ _ _ ?_
      exact hX.2 _ _ [] _ _ _ mW0 (b70 _ _ _ (rg_w (c := 1) (d := 3) (rg_c (a := 1) (b := 1) (by decide +kernel)) (by decide +kernel)) hI)
    · -- on
      refine k_X9_skips n e f0 _ _ _  hI (fun y25 f26 gf26 hy25 hI27 => ?_)
      exact hX.2 _ _ [] _ _ _ mW0 (b70 _ _ _ (rg_w (c := 1) (d := 3) (show rg 2 3 _ from (rg_add (rg_c (a := 1) (b := 1) (by decide +kernel)) hy25 (by decide +kernel))) (by decide +kernel)) hI27)
  have b94 : ∀ (f : mFn) (g : mGn), rI (n + 1) e f0 f g → X 94 [] [] f g := by
    intro f g  hI
    refine hX.1 9 _ rfl _ _ _ _ ?_
    exact And.intro mRt_i (hK _ _ _ (rg_w (c := 1) (d := 3) (rg_c (a := 2) (b := 2) (by decide +kernel)) (by decide +kernel)) hI)
  have b83 : ∀ (a2 : Int32) (a3 : Int32) (a4 : Int32) (f : mFn) (g : mGn), rg 35 53 a2 → rg 0 128 a3 → rg 0 1 a4 → rI n e f0 f g → X 83 [(0, .inr 0), (2, .inl a2), (3, .inl a3), (4, .inl a4)] [] f g := by
    intro a2 a3 a4 f g ha2 ha3 ha4 hI
    refine hX.1 8 _ rfl _ _ _ _ ?_
    refine And.intro (fun c28 => ?_) (fun c28 => ?_)
    · -- 94
      exact hX.2 _ _ [] _ _ _ mW0 (b94  _ _  (rM hI (by omega) (by omega)))
    · -- on
      refine k_X9_store n e f0 _ _ _ _ _ (rg_w (c := 0) (d := 65535) ha2 (by decide +kernel)) (rg_w (c := 0) (d := 255) ha3 (by decide +kernel)) (by omega) hI (fun f30 gf30 hI31 => ?_)
      exact hX.2 _ _ [] _ _ _ mW0 (b94  _ _  hI31)
  have b123 : ∀ (s1 : Int32) (s2 : Int32) (f : mFn) (g : mGn), rg 32 63 s1 → rg 0 255 s2 → rI n e f0 f g → X 123 [] [.inl s2, .inl s1, .inr 0] f g := by
    intro s1 s2 f g hs1 hs2 hI
    refine hX.1 12 _ rfl _ _ _ _ ?_
    refine k_X9_store n e f0 _ _ _ _ _ (rg_w (c := 0) (d := 65535) hs1 (by decide +kernel)) (rg_w (c := 0) (d := 255) hs2 (by decide +kernel)) (by omega) hI (fun f33 gf33 hI34 => ?_)
    exact And.intro mRt_i (hK _ _ _ (rg_w (c := 1) (d := 3) (rg_c (a := 2) (b := 2) (by decide +kernel)) (by decide +kernel)) hI34)
  have b30 : ∀ (a1 : Int32) (a2 : Int32) (a3 : Int32) (s0 : Int32) (f : mFn) (g : mGn), rg 0 65535 a1 → rg 32 63 a2 → rg 0 128 a3 → rg 0 1 s0 → rI n e f0 f g → X 30 [(0, .inr 0), (1, .inl a1), (2, .inl a2), (3, .inl a3)] [.inl s0] f g := by
    intro a1 a2 a3 s0 f g ha1 ha2 ha3 hs0 hI
    refine hX.1 2 _ rfl _ _ _ _ ?_
    refine And.intro (fun c35 => ?_) (fun c35 => ?_)
    · -- 71
      refine hX.1 7 _ rfl _ _ _ _ ?_
      refine And.intro (fun c36 => ?_) (fun c36 => ?_)
      · -- 83
        exact hX.2 _ _ [(0, .inr 0), (2, .inl _), (3, .inl _), (4, .inl _)] _ _ _ (mWc rfl (mWc rfl (mWc rfl (mWc rfl mW0)))) (b83 _ _ _ _ _ (rg_w (c := 35) (d := 53) (show rg 35 35 _ from (rg_eq (rg_c (a := 35) (b := 35) (by decide +kernel)) c36)) (by decide +kernel)) (rg_w (c := 0) (d := 128) ha3 (by decide +kernel)) (rg_w (c := 0) (d := 1) hs0 (by decide +kernel)) hI)
      · -- on
        refine And.intro (fun c37 => ?_) (fun c37 => ?_)
        · -- 96
          refine hX.1 10 _ rfl _ _ _ _ ?_
          refine k_X9_load n e f0 _ _ _ _ (rg_w (c := 0) (d := 65535) ha2 (by decide +kernel)) hI (fun y38 f39 gf39 hy38 hI40 => ?_)
          refine And.intro (fun c41 => ?_) (fun c41 => ?_)
          · -- 117
            refine hX.1 11 _ rfl _ _ _ _ ?_
            exact hX.2 _ _ [] _ _ _ mW0 (b123 _ _ _ _ (rg_w (c := 32) (d := 63) ha2 (by decide +kernel)) (rg_w (c := 0) (d := 255) (show rg 0 255 _ from (rg_andL hy38 (by decide +kernel))) (by decide +kernel)) hI40)
          · -- on
            exact hX.2 _ _ [] _ _ _ mW0 (b123 _ _ _ _ (rg_w (c := 32) (d := 63) ha2 (by decide +kernel)) (rg_w (c := 0) (d := 255) (show rg 0 255 _ from (rg_or (k := 8) hy38 ha3 (by decide +kernel))) (by decide +kernel)) hI40)
        · -- on
          exact hX.2 _ _ [(0, .inr 0), (2, .inl _), (3, .inl _), (4, .inl _)] _ _ _ (mWc rfl (mWc rfl (mWc rfl (mWc rfl mW0)))) (b83 _ _ _ _ _ (rg_w (c := 35) (d := 53) (show rg 53 53 _ from (rg_eq (rg_c (a := 53) (b := 53) (by decide +kernel)) c37)) (by decide +kernel)) (rg_w (c := 0) (d := 128) ha3 (by decide +kernel)) (rg_w (c := 0) (d := 1) hs0 (by decide +kernel)) hI)
    · -- on
      refine k_X9_load n e f0 _ _ _ _ (rg_w (c := 0) (d := 65535) ha2 (by decide +kernel)) hI (fun y42 f43 gf43 hy42 hI44 => ?_)
      refine And.intro (fun c45 => ?_) (fun c45 => ?_)
      · -- 54
        refine hX.1 3 _ rfl _ _ _ _ ?_
        exact hX.2 _ _ [(0, .inr 0), (4, .inl _)] _ _ _ (mWc rfl (mWc rfl mW0)) (b55 _ _ _ _ (rg_w (c := 0) (d := 1) hs0 (by decide +kernel)) (rg_w (c := 0) (d := 1) (rg_c (a := 0) (b := 0) (by decide +kernel)) (by decide +kernel)) hI44)
      · -- on
        exact hX.2 _ _ [(0, .inr 0), (4, .inl _)] _ _ _ (mWc rfl (mWc rfl mW0)) (b55 _ _ _ _ (rg_w (c := 0) (d := 1) hs0 (by decide +kernel)) (rg_w (c := 0) (d := 1) (rg_c (a := 1) (b := 1) (by decide +kernel)) (by decide +kernel)) hI44)
  refine hX.1 0 _ rfl _ _ _ _ ?_
  refine And.intro (fun c46 => ?_) (fun c46 => ?_)
  · -- 29
    refine hX.1 1 _ rfl _ _ _ _ ?_
    exact hX.2 _ _ [(0, .inr 0), (1, .inl _), (2, .inl _), (3, .inl _)] _ _ _ (mWc rfl (mWc rfl (mWc rfl (mWc rfl mW0)))) (b30 _ _ _ _ _ _ (rg_w (c := 0) (d := 65535) hx1 (by decide +kernel)) (rg_w (c := 32) (d := 63) (show rg 32 63 _ from (rg_add (rg_c (a := 32) (b := 32) (by decide +kernel)) (show rg 0 31 _ from (rg_andR (rg_c (a := 31) (b := 31) (by decide +kernel)) (by decide +kernel))) (by decide +kernel))) (by decide +kernel)) (rg_w (c := 0) (d := 128) (show rg 0 128 _ from (rg_shlV 7 (rg_c (a := 1) (b := 1) (by decide +kernel)) (show rg 0 7 _ from (rg_andR (rg_c (a := 7) (b := 7) (by decide +kernel)) (by decide +kernel))) (by decide +kernel))) (by decide +kernel)) (rg_w (c := 0) (d := 1) (rg_c (a := 0) (b := 0) (by decide +kernel)) (by decide +kernel)) hI)
  · -- on
    exact hX.2 _ _ [(0, .inr 0), (1, .inl _), (2, .inl _), (3, .inl _)] _ _ _ (mWc rfl (mWc rfl (mWc rfl (mWc rfl mW0)))) (b30 _ _ _ _ _ _ (rg_w (c := 0) (d := 65535) hx1 (by decide +kernel)) (rg_w (c := 32) (d := 63) (show rg 32 63 _ from (rg_add (rg_c (a := 32) (b := 32) (by decide +kernel)) (show rg 0 31 _ from (rg_andR (rg_c (a := 31) (b := 31) (by decide +kernel)) (by decide +kernel))) (by decide +kernel))) (by decide +kernel)) (rg_w (c := 0) (d := 128) (show rg 0 128 _ from (rg_shlV 7 (rg_c (a := 1) (b := 1) (by decide +kernel)) (show rg 0 7 _ from (rg_andR (rg_c (a := 7) (b := 7) (by decide +kernel)) (by decide +kernel))) (by decide +kernel))) (by decide +kernel)) (rg_w (c := 0) (d := 1) (rg_c (a := 1) (b := 1) (by decide +kernel)) (by decide +kernel)) hI)
def SPX9_nines (S : mSp) : Prop := ∀ (n e : Int) (f0 f : mFn) (g : mGn) (K : mKr) (x1 : Int32), rg 0 65535 x1 → n + 2 ≤ 300000000 → rI n 0 f0 f g → (∀ (y : Int32) (f' : mFn) (g' : mGn), rg 1 4 y → rI (n + 2) 8000 f0 f' g' → K (some (.inl y)) f' g') → S [.inr 0, .inl x1] f g K
set_option maxRecDepth 100000 in
set_option maxHeartbeats 4000000 in
theorem sfX9_nines : SPX9_nines spX9_nines := by
  intro n e f0 f g K x1 hx1 hB hI hK
  refine ⟨rfl, fun X hX => ?_⟩
  obtain ⟨S_X9_loads, k_X9_loads, S_X9_stores, k_X9_stores, S_X9_single, k_X9_single, S_X9_pairs, k_X9_pairs, S_X9_portBits, k_X9_portBits, S_X9_product, k_X9_product, hX⟩ : ∃ S_X9_loads, SPX9_loads S_X9_loads ∧ ∃ S_X9_stores, SPX9_stores S_X9_stores ∧ ∃ S_X9_single, SPX9_single S_X9_single ∧ ∃ S_X9_pairs, SPX9_pairs S_X9_pairs ∧ ∃ S_X9_portBits, SPX9_portBits S_X9_portBits ∧ ∃ S_X9_product, SPX9_product S_X9_product ∧ mR shM fdX9_nines [(312, 0, 1, 12, S_X9_loads), (315, 0, 1, 12, S_X9_stores), (318, 0, 1, 12, S_X9_single), (321, 0, 1, 12, S_X9_pairs), (324, 0, 1, 12, S_X9_portBits), (305, 0, 2, 12, S_X9_product)] bsX9_nines (fun r f g => mRt (some .int) r ∧ K r f g) X := ⟨spX9_loads, sfX9_loads, spX9_stores, sfX9_stores, spX9_single, sfX9_single, spX9_pairs, sfX9_pairs, spX9_portBits, sfX9_portBits, spX9_product, sfX9_product, hX⟩
  have b68 : ∀ (a1 : Int32) (f : mFn) (g : mGn), rg 0 65535 a1 → rI n 0 f0 f g → X 68 [(0, .inr 0), (1, .inl a1)] [] f g := by
    intro a1 f g ha1 hI
    refine hX.1 5 _ rfl _ _ _ _ ?_
    refine k_X9_portBits n 0 f0 _ _ _ _ (rg_w (c := 0) (d := 65535) ha1 (by decide +kernel)) (by omega) hI (fun y25 f26 gf26 hy25 hI27 => ?_)
    exact And.intro mRt_i (hK _ _ _ (rg_w (c := 1) (d := 4) hy25 (by decide +kernel)) (rE (rM hI27 (by omega) (by omega)) (by omega) (by omega)))
  refine hX.1 0 _ rfl _ _ _ _ ?_
  refine And.intro (fun c28 => ?_) (fun c28 => ?_)
  · -- 44
    refine hX.1 1 _ rfl _ _ _ _ ?_
    refine k_X9_loads n 0 f0 _ _ _ _ (rg_w (c := 0) (d := 65535) hx1 (by decide +kernel)) hI (fun y29 f30 gf30 hy29 hI31 => ?_)
    exact And.intro mRt_i (hK _ _ _ (rg_w (c := 1) (d := 4) hy29 (by decide +kernel)) (rE (rM hI31 (by omega) (by omega)) (by omega) (by omega)))
  · -- on
    refine And.intro (fun c32 => ?_) (fun c32 => ?_)
    · -- 50
      refine hX.1 2 _ rfl _ _ _ _ ?_
      refine k_X9_stores n 0 f0 _ _ _ _ (rg_w (c := 0) (d := 65535) hx1 (by decide +kernel)) (by omega) hI (fun y33 f34 gf34 hy33 hI35 => ?_)
      exact And.intro mRt_i (hK _ _ _ (rg_w (c := 1) (d := 4) hy33 (by decide +kernel)) (rE (rM hI35 (by omega) (by omega)) (by omega) (by omega)))
    · -- on
      refine And.intro (fun c36 => ?_) (fun c36 => ?_)
      · -- 56
        refine hX.1 3 _ rfl _ _ _ _ ?_
        refine k_X9_single n 0 f0 _ _ _ _ (rg_w (c := 0) (d := 65535) hx1 (by decide +kernel)) (by omega) hI (fun y37 f38 gf38 hy37 hI39 => ?_)
        exact And.intro mRt_i (hK _ _ _ (rg_w (c := 1) (d := 4) hy37 (by decide +kernel)) hI39)
      · -- on
        refine And.intro (fun c40 => ?_) (fun c40 => ?_)
        · -- 62
          refine hX.1 4 _ rfl _ _ _ _ ?_
          refine k_X9_pairs n 0 f0 _ _ _ _ (rg_w (c := 0) (d := 65535) hx1 (by decide +kernel)) hI (fun y41 f42 gf42 hy41 hI43 => ?_)
          exact And.intro mRt_i (hK _ _ _ (rg_w (c := 1) (d := 4) hy41 (by decide +kernel)) (rE (rM hI43 (by omega) (by omega)) (by omega) (by omega)))
        · -- on
          refine And.intro (fun c44 => ?_) (fun c44 => ?_)
          · -- 68
            exact hX.2 _ _ [(0, .inr 0), (1, .inl _)] _ _ _ (mWc rfl (mWc rfl mW0)) (b68 _ _ _ (rg_w (c := 0) (d := 65535) hx1 (by decide +kernel)) hI)
          · -- on
            refine And.intro (fun c45 => ?_) (fun c45 => ?_)
            · -- 68
              exact hX.2 _ _ [(0, .inr 0), (1, .inl _)] _ _ _ (mWc rfl (mWc rfl mW0)) (b68 _ _ _ (rg_w (c := 0) (d := 65535) hx1 (by decide +kernel)) hI)
            · -- on
              refine hX.1 6 _ rfl _ _ _ _ ?_
              refine And.intro (rg_in (show rg 0 31 _ from (rg_andR (rg_c (a := 31) (b := 31) (by decide +kernel)) (by decide +kernel))) (by decide +kernel)) ?_
              refine And.intro (rg_in (show rg 0 31 _ from (rg_or (k := 5) (show rg 0 15 _ from (rg_andR (rg_c (a := 15) (b := 15) (by decide +kernel)) (by decide +kernel))) (show rg 0 16 _ from (rg_andR (rg_c (a := 16) (b := 16) (by decide +kernel)) (by decide +kernel))) (by decide +kernel))) (by decide +kernel)) ?_
              refine k_X9_product n 0 f0 _ _ _ _ _ (rg_w (c := 0) (d := 1) (rg_c (a := 0) (b := 0) (by decide +kernel)) (by decide +kernel)) hI (fun f47 gf47 hI48 => ?_)
              exact And.intro mRt_i (hK _ _ _ (rg_w (c := 1) (d := 4) (rg_c (a := 2) (b := 2) (by decide +kernel)) (by decide +kernel)) (rE (rM hI48 (by omega) (by omega)) (by omega) (by omega)))
def SPX9_ports (S : mSp) : Prop := ∀ (n e : Int) (f0 f : mFn) (g : mGn) (K : mKr) (x1 : Int32), rg 0 65535 x1 → n + 1 ≤ 300000000 → rI n e f0 f g → (∀ (y : Int32) (f' : mFn) (g' : mGn), rg 1 1 y → rI (n + 1) e f0 f' g' → K (some (.inl y)) f' g') → S [.inr 0, .inl x1] f g K
set_option maxRecDepth 100000 in
set_option maxHeartbeats 4000000 in
theorem sfX9_ports : SPX9_ports spX9_ports := by
  intro n e f0 f g K x1 hx1 hB hI hK
  refine ⟨rfl, fun X hX => ?_⟩
  obtain ⟨S_X9_store, k_X9_store, S_X9_load, k_X9_load, hX⟩ : ∃ S_X9_store, SPX9_store S_X9_store ∧ ∃ S_X9_load, SPX9_load S_X9_load ∧ mR shM fdX9_ports [(234, 0, 2, 12, S_X9_store), (241, 0, 1, 12, S_X9_load)] bsX9_ports (fun r f g => mRt (some .int) r ∧ K r f g) X := ⟨spX9_store, sfX9_store, spX9_load, sfX9_load, hX⟩
  have b55 : ∀ (f : mFn) (g : mGn), rI (n + 1) e f0 f g → X 55 [] [] f g := by
    intro f g  hI
    refine hX.1 2 _ rfl _ _ _ _ ?_
    exact And.intro mRt_i (hK _ _ _ (rg_w (c := 1) (d := 1) (rg_c (a := 1) (b := 1) (by decide +kernel)) (by decide +kernel)) hI)
  refine hX.1 0 _ rfl _ _ _ _ ?_
  refine And.intro (fun c9 => ?_) (fun c9 => ?_)
  · -- 44
    refine hX.1 1 _ rfl _ _ _ _ ?_
    refine k_X9_load n e f0 _ _ _ _ (rg_w (c := 0) (d := 65535) (show rg 32 95 _ from (rg_add (rg_c (a := 32) (b := 32) (by decide +kernel)) (show rg 0 63 _ from (rg_or (k := 6) (show rg 0 15 _ from (rg_andR (rg_c (a := 15) (b := 15) (by decide +kernel)) (by decide +kernel))) (show rg 0 48 _ from (rg_andR (rg_c (a := 48) (b := 48) (by decide +kernel)) (by decide +kernel))) (by decide +kernel))) (by decide +kernel))) (by decide +kernel)) hI (fun y10 f11 gf11 hy10 hI12 => ?_)
    refine And.intro (rg_in (show rg 0 31 _ from (rg_andR (rg_c (a := 31) (b := 31) (by decide +kernel)) (by decide +kernel))) (by decide +kernel)) ?_
    exact hX.2 _ _ [] _ _ _ mW0 (b55  _ _  (rM (gI_a1 hI12 2 1280 (lo := 0) (hi := 255) (rg_w (c := 0) (d := 255) hy10 (by decide +kernel)) (by decide +kernel)) (by omega) (by omega)))
  · -- on
    refine And.intro (rg_in (show rg 0 31 _ from (rg_andR (rg_c (a := 31) (b := 31) (by decide +kernel)) (by decide +kernel))) (by decide +kernel)) ?_
    refine k_X9_store n e f0 _ _ _ _ _ (rg_w (c := 0) (d := 65535) (show rg 32 95 _ from (rg_add (rg_c (a := 32) (b := 32) (by decide +kernel)) (show rg 0 63 _ from (rg_or (k := 6) (show rg 0 15 _ from (rg_andR (rg_c (a := 15) (b := 15) (by decide +kernel)) (by decide +kernel))) (show rg 0 48 _ from (rg_andR (rg_c (a := 48) (b := 48) (by decide +kernel)) (by decide +kernel))) (by decide +kernel))) (by decide +kernel))) (by decide +kernel)) (rg_w (c := 0) (d := 255) (gI_g hI 2 3 1280 0 255 rfl (rg_in (show rg 0 31 _ from (rg_andR (rg_c (a := 31) (b := 31) (by decide +kernel)) (by decide +kernel))) (by decide +kernel))) (by decide +kernel)) (by omega) hI (fun f15 gf15 hI16 => ?_)
    exact hX.2 _ _ [] _ _ _ mW0 (b55  _ _  hI16)
def SPX9_relative (S : mSp) : Prop := ∀ (n e : Int) (f0 f : mFn) (g : mGn) (K : mKr) (x1 : Int32), rg 0 65535 x1 → n + 2 ≤ 300000000 → rI n e f0 f g → (∀ (y : Int32) (f' : mFn) (g' : mGn), rg 2 3 y → rI (n + 2) e f0 f' g' → K (some (.inl y)) f' g') → S [.inr 0, .inl x1] f g K
set_option maxRecDepth 100000 in
set_option maxHeartbeats 4000000 in
theorem sfX9_relative : SPX9_relative spX9_relative := by
  intro n e f0 f g K x1 hx1 hB hI hK
  refine ⟨rfl, fun X hX => ?_⟩
  obtain ⟨S_X9_pushPlace, k_X9_pushPlace, hX⟩ : ∃ S_X9_pushPlace, SPX9_pushPlace S_X9_pushPlace ∧ mR shM fdX9_relative [(169, 0, 1, 12, S_X9_pushPlace)] bsX9_relative (fun r f g => mRt (some .int) r ∧ K r f g) X := ⟨spX9_pushPlace, sfX9_pushPlace, hX⟩
  have b51 : ∀ (s0 : Int32) (f : mFn) (g : mGn), rg 2 3 s0 → rI (n + 2) e f0 f g → X 51 [] [.inl s0] f g := by
    intro s0 f g hs0 hI
    refine hX.1 3 _ rfl _ _ _ _ ?_
    exact And.intro mRt_i (hK _ _ _ (rg_w (c := 2) (d := 3) hs0 (by decide +kernel)) hI)
  have b23 : ∀ (a1 : Int32) (a2 : Int32) (f : mFn) (g : mGn), rg 0 65535 a1 → rg 0 4095 a2 → rI (n + 2) e f0 f g → X 23 [(0, .inr 0), (1, .inl a1), (2, .inl a2)] [] f g := by
    intro a1 a2 f g ha1 ha2 hI
    refine hX.1 1 _ rfl _ _ _ _ ?_
    refine And.intro (fun c8 => ?_) (fun c8 => ?_)
    · -- 50
      refine hX.1 2 _ rfl _ _ _ _ ?_
      exact hX.2 _ _ [] _ _ _ mW0 (b51 _ _ _ (rg_w (c := 2) (d := 3) (rg_c (a := 2) (b := 2) (by decide +kernel)) (by decide +kernel)) (rP1 5 (rg_w (c := 0) (d := 2047) (show rg 0 2047 _ from (rg_andR (rg_c (a := 2047) (b := 2047) (by decide +kernel)) (by decide +kernel))) (by decide +kernel)) hI (by decide +kernel)))
    · -- on
      exact hX.2 _ _ [] _ _ _ mW0 (b51 _ _ _ (rg_w (c := 2) (d := 3) (rg_c (a := 3) (b := 3) (by decide +kernel)) (by decide +kernel)) (rP1 5 (rg_w (c := 0) (d := 2047) (show rg 0 2047 _ from (rg_andR (rg_c (a := 2047) (b := 2047) (by decide +kernel)) (by decide +kernel))) (by decide +kernel)) hI (by decide +kernel)))
  refine hX.1 0 _ rfl _ _ _ _ ?_
  refine And.intro (fun c9 => ?_) (fun c9 => ?_)
  · -- 23
    exact hX.2 _ _ [(0, .inr 0), (1, .inl _), (2, .inl _)] _ _ _ (mWc rfl (mWc rfl (mWc rfl mW0))) (b23 _ _ _ _ (rg_w (c := 0) (d := 65535) hx1 (by decide +kernel)) (rg_w (c := 0) (d := 4095) (show rg 0 4095 _ from (rg_andR (rg_c (a := 4095) (b := 4095) (by decide +kernel)) (by decide +kernel))) (by decide +kernel)) (rM hI (by omega) (by omega)))
  · -- on
    refine k_X9_pushPlace n e f0 _ _ _ _ (rg_w (c := 0) (d := 2047) (gI_s hI 5 12 0 2047 rfl) (by decide +kernel)) (by omega) hI (fun f11 gf11 hI12 => ?_)
    exact hX.2 _ _ [(0, .inr 0), (1, .inl _), (2, .inl _)] _ _ _ (mWc rfl (mWc rfl (mWc rfl mW0))) (b23 _ _ _ _ (rg_w (c := 0) (d := 65535) hx1 (by decide +kernel)) (rg_w (c := 0) (d := 4095) (show rg 0 4095 _ from (rg_andR (rg_c (a := 4095) (b := 4095) (by decide +kernel)) (by decide +kernel))) (by decide +kernel)) hI12)
def SPX9_instruction (S : mSp) : Prop := ∀ (n e : Int) (f0 f : mFn) (g : mGn) (K : mKr), n + 2 ≤ 300000000 → rI n e f0 f g → (∀ (y : Int32) (f' : mFn) (g' : mGn), rg 1 1200008004 y → rI (n + 2) 8000 f0 f' g' → K (some (.inl y)) f' g') → S [.inr 0] f g K
set_option maxRecDepth 100000 in
set_option maxHeartbeats 4000000 in
theorem sfX9_instruction : SPX9_instruction spX9_instruction := by
  intro n e f0 f g K   hB hI hK
  refine ⟨rfl, fun X hX => ?_⟩
  obtain ⟨S_X9_next, k_X9_next, S_X9_ofTwo, k_X9_ofTwo, S_X9_ofNumber, k_X9_ofNumber, S_X9_nines, k_X9_nines, S_X9_displaced, k_X9_displaced, S_X9_ports, k_X9_ports, S_X9_bits, k_X9_bits, S_X9_relative, k_X9_relative, hX⟩ : ∃ S_X9_next, SPX9_next S_X9_next ∧ ∃ S_X9_ofTwo, SPX9_ofTwo S_X9_ofTwo ∧ ∃ S_X9_ofNumber, SPX9_ofNumber S_X9_ofNumber ∧ ∃ S_X9_nines, SPX9_nines S_X9_nines ∧ ∃ S_X9_displaced, SPX9_displaced S_X9_displaced ∧ ∃ S_X9_ports, SPX9_ports S_X9_ports ∧ ∃ S_X9_bits, SPX9_bits S_X9_bits ∧ ∃ S_X9_relative, SPX9_relative S_X9_relative ∧ mR shM fdX9_instruction [(259, 0, 0, 12, S_X9_next), (262, 0, 1, 12, S_X9_ofTwo), (265, 0, 1, 12, S_X9_ofNumber), (268, 0, 1, 12, S_X9_nines), (273, 0, 1, 12, S_X9_displaced), (276, 0, 1, 12, S_X9_ports), (279, 0, 1, 12, S_X9_bits), (282, 0, 1, 12, S_X9_relative)] bsX9_instruction (fun r f g => mRt (some .int) r ∧ K r f g) X := ⟨spX9_next, sfX9_next, spX9_ofTwo, sfX9_ofTwo, spX9_ofNumber, sfX9_ofNumber, spX9_nines, sfX9_nines, spX9_displaced, sfX9_displaced, spX9_ports, sfX9_ports, spX9_bits, sfX9_bits, spX9_relative, sfX9_relative, hX⟩
  have b136 : ∀ (s0 : Int32) (f : mFn) (g : mGn), rg 1 4 s0 → rI (n + 2) 8000 f0 f g → X 136 [(0, .inr 0)] [.inl s0] f g := by
    intro s0 f g hs0 hI
    refine hX.1 8 _ rfl _ _ _ _ ?_
    exact And.intro mRt_i (hK _ _ _ (rg_w (c := 1) (d := 1200008004) (show rg 1 1200008004 _ from (rg_add hs0 (gI_s hI 14 37 0 1200008000 rfl) (by decide +kernel))) (by decide +kernel)) hI)
  have b53 : ∀ (a1 : Int32) (f : mFn) (g : mGn), rg 0 65535 a1 → rI n 0 f0 f g → X 53 [(0, .inr 0), (1, .inl a1)] [] f g := by
    intro a1 f g ha1 hI
    refine hX.1 2 _ rfl _ _ _ _ ?_
    refine k_X9_ofNumber n 0 f0 _ _ _ _ (rg_w (c := 0) (d := 65535) ha1 (by decide +kernel)) hI (fun y34 f35 gf35 hy34 hI36 => ?_)
    exact hX.2 _ _ [(0, .inr 0)] _ _ _ (mWc rfl mW0) (b136 _ _ _ (rg_w (c := 1) (d := 4) hy34 (by decide +kernel)) (rE (rM hI36 (by omega) (by omega)) (by omega) (by omega)))
  refine hX.1 0 _ rfl _ _ _ _ ?_
  refine k_X9_next n 0 f0 _ _ _  (rD0 (rP0 hI (by decide +kernel))) (fun y39 f40 gf40 hy39 hI41 => ?_)
  refine And.intro (fun c42 => ?_) (fun c42 => ?_)
  · -- 35
    refine hX.1 1 _ rfl _ _ _ _ ?_
    refine And.intro (fun c43 => ?_) (fun c43 => ?_)
    · -- 53
      exact hX.2 _ _ [(0, .inr 0), (1, .inl _)] _ _ _ (mWc rfl (mWc rfl mW0)) (b53 _ _ _ (rg_w (c := 0) (d := 65535) hy39 (by decide +kernel)) hI41)
    · -- on
      refine And.intro (fun c44 => ?_) (fun c44 => ?_)
      · -- 61
        refine hX.1 3 _ rfl _ _ _ _ ?_
        refine And.intro (fun c45 => ?_) (fun c45 => ?_)
        · -- 78
          refine hX.1 4 _ rfl _ _ _ _ ?_
          refine And.intro (fun c46 => ?_) (fun c46 => ?_)
          · -- 97
            refine hX.1 5 _ rfl _ _ _ _ ?_
            refine And.intro (fun c47 => ?_) (fun c47 => ?_)
            · -- 114
              refine hX.1 6 _ rfl _ _ _ _ ?_
              refine And.intro (fun c48 => ?_) (fun c48 => ?_)
              · -- 131
                refine hX.1 7 _ rfl _ _ _ _ ?_
                refine k_X9_relative n 0 f0 _ _ _ _ (rg_w (c := 0) (d := 65535) hy39 (by decide +kernel)) (by omega) hI41 (fun y49 f50 gf50 hy49 hI51 => ?_)
                exact hX.2 _ _ [(0, .inr 0)] _ _ _ (mWc rfl mW0) (b136 _ _ _ (rg_w (c := 1) (d := 4) hy49 (by decide +kernel)) (rE hI51 (by omega) (by omega)))
              · -- on
                refine k_X9_bits n 0 f0 _ _ _ _ (rg_w (c := 0) (d := 65535) hy39 (by decide +kernel)) hI41 (fun y52 f53 gf53 hy52 hI54 => ?_)
                exact hX.2 _ _ [(0, .inr 0)] _ _ _ (mWc rfl mW0) (b136 _ _ _ (rg_w (c := 1) (d := 4) hy52 (by decide +kernel)) (rE (rM hI54 (by omega) (by omega)) (by omega) (by omega)))
            · -- on
              refine k_X9_ports n 0 f0 _ _ _ _ (rg_w (c := 0) (d := 65535) hy39 (by decide +kernel)) (by omega) hI41 (fun y55 f56 gf56 hy55 hI57 => ?_)
              exact hX.2 _ _ [(0, .inr 0)] _ _ _ (mWc rfl mW0) (b136 _ _ _ (rg_w (c := 1) (d := 4) hy55 (by decide +kernel)) (rE (rM hI57 (by omega) (by omega)) (by omega) (by omega)))
          · -- on
            refine k_X9_displaced n 0 f0 _ _ _ _ (rg_w (c := 0) (d := 65535) hy39 (by decide +kernel)) (by omega) hI41 (fun y58 f59 gf59 hy58 hI60 => ?_)
            exact hX.2 _ _ [(0, .inr 0)] _ _ _ (mWc rfl mW0) (b136 _ _ _ (rg_w (c := 1) (d := 4) hy58 (by decide +kernel)) (rE (rM hI60 (by omega) (by omega)) (by omega) (by omega)))
        · -- on
          refine k_X9_nines n 0 f0 _ _ _ _ (rg_w (c := 0) (d := 65535) hy39 (by decide +kernel)) (by omega) hI41 (fun y61 f62 gf62 hy61 hI63 => ?_)
          exact hX.2 _ _ [(0, .inr 0)] _ _ _ (mWc rfl mW0) (b136 _ _ _ (rg_w (c := 1) (d := 4) hy61 (by decide +kernel)) hI63)
      · -- on
        exact hX.2 _ _ [(0, .inr 0), (1, .inl _)] _ _ _ (mWc rfl (mWc rfl mW0)) (b53 _ _ _ (rg_w (c := 0) (d := 65535) hy39 (by decide +kernel)) hI41)
  · -- on
    refine k_X9_ofTwo n 0 f0 _ _ _ _ (rg_w (c := 0) (d := 65535) hy39 (by decide +kernel)) hI41 (fun y64 f65 gf65 hy64 hI66 => ?_)
    exact hX.2 _ _ [(0, .inr 0)] _ _ _ (mWc rfl mW0) (b136 _ _ _ (rg_w (c := 1) (d := 4) hy64 (by decide +kernel)) (rE (rM hI66 (by omega) (by omega)) (by omega) (by omega)))
def SPX9_line (S : mSp) : Prop := ∀ (n e : Int) (f0 f : mFn) (g : mGn) (K : mKr), rI n e f0 f g → (∀ (f' : mFn) (g' : mGn), rI n e f0 f' g' → K none f' g') → S [.inr 0] f g K
-- by hand: writes counted scalar 25
theorem sfX9_line : SPX9_line spX9_line := by
  sorry
def SPX9_windows (S : mSp) : Prop := ∀ (n e : Int) (f0 f : mFn) (g : mGn) (K : mKr), rI n e f0 f g → (∀ (f' : mFn) (g' : mGn), rI n e f0 f' g' → K none f' g') → S [.inr 0] f g K
set_option maxRecDepth 100000 in
set_option maxHeartbeats 4000000 in
theorem sfX9_windows : SPX9_windows spX9_windows := by
  intro n e f0 f g K   hI hK
  refine ⟨rfl, fun X hX => ?_⟩
  have b185 : ∀ (f : mFn) (g : mGn), rI n e f0 f g → X 185 [] [] f g := by
    intro f g  hI
    refine hX.1 5 _ rfl _ _ _ _ ?_
    exact And.intro mRt_v (hK _ _ hI)
  have b148 : ∀ (f : mFn) (g : mGn), rI n e f0 f g → X 148 [(0, .inr 0)] [] f g := by
    intro f g  hI
    refine hX.1 4 _ rfl _ _ _ _ ?_
    refine And.intro (fun c21 => ?_) (fun c21 => ?_)
    · -- 185
      exact hX.2 _ _ [] _ _ _ mW0 (b185  _ _  hI)
    · -- on
      refine And.intro (fun c23 => ?_) (fun c23 => ?_)
      · -- 185
        exact hX.2 _ _ [] _ _ _ mW0 (b185  _ _  (rP0 hI (by decide +kernel)))
      · -- on
        refine And.intro (rg_in (rg_c (a := 87) (b := 87) (by decide +kernel)) (by decide +kernel)) ?_
        refine And.intro (rg_in (rg_c (a := 87) (b := 87) (by decide +kernel)) (by decide +kernel)) ?_
        exact hX.2 _ _ [] _ _ _ mW0 (b185  _ _  (gI_a1 (rP0 hI (by decide +kernel)) 2 1280 (lo := 0) (hi := 255) (rg_w (c := 0) (d := 255) (show rg 0 224 _ from (rg_andR (rg_c (a := 224) (b := 224) (by decide +kernel)) (by decide +kernel))) (by decide +kernel)) (by decide +kernel)))
  have b111 : ∀ (f : mFn) (g : mGn), rI n e f0 f g → X 111 [(0, .inr 0)] [] f g := by
    intro f g  hI
    refine hX.1 3 _ rfl _ _ _ _ ?_
    refine And.intro (fun c25 => ?_) (fun c25 => ?_)
    · -- 148
      exact hX.2 _ _ [(0, .inr 0)] _ _ _ (mWc rfl mW0) (b148  _ _  hI)
    · -- on
      refine And.intro (fun c27 => ?_) (fun c27 => ?_)
      · -- 148
        exact hX.2 _ _ [(0, .inr 0)] _ _ _ (mWc rfl mW0) (b148  _ _  (rP0 hI (by decide +kernel)))
      · -- on
        refine And.intro (rg_in (rg_c (a := 63) (b := 63) (by decide +kernel)) (by decide +kernel)) ?_
        refine And.intro (rg_in (rg_c (a := 63) (b := 63) (by decide +kernel)) (by decide +kernel)) ?_
        exact hX.2 _ _ [(0, .inr 0)] _ _ _ (mWc rfl mW0) (b148  _ _  (gI_a1 (rP0 hI (by decide +kernel)) 2 1280 (lo := 0) (hi := 255) (rg_w (c := 0) (d := 255) (show rg 0 251 _ from (rg_andR (rg_c (a := 251) (b := 251) (by decide +kernel)) (by decide +kernel))) (by decide +kernel)) (by decide +kernel)))
  have b74 : ∀ (f : mFn) (g : mGn), rI n e f0 f g → X 74 [(0, .inr 0)] [] f g := by
    intro f g  hI
    refine hX.1 2 _ rfl _ _ _ _ ?_
    refine And.intro (fun c29 => ?_) (fun c29 => ?_)
    · -- 111
      exact hX.2 _ _ [(0, .inr 0)] _ _ _ (mWc rfl mW0) (b111  _ _  hI)
    · -- on
      refine And.intro (fun c31 => ?_) (fun c31 => ?_)
      · -- 111
        exact hX.2 _ _ [(0, .inr 0)] _ _ _ (mWc rfl mW0) (b111  _ _  (rP0 hI (by decide +kernel)))
      · -- on
        refine And.intro (rg_in (rg_c (a := 85) (b := 85) (by decide +kernel)) (by decide +kernel)) ?_
        refine And.intro (rg_in (rg_c (a := 85) (b := 85) (by decide +kernel)) (by decide +kernel)) ?_
        exact hX.2 _ _ [(0, .inr 0)] _ _ _ (mWc rfl mW0) (b111  _ _  (gI_a1 (rP0 hI (by decide +kernel)) 2 1280 (lo := 0) (hi := 255) (rg_w (c := 0) (d := 255) (show rg 0 254 _ from (rg_andR (rg_c (a := 254) (b := 254) (by decide +kernel)) (by decide +kernel))) (by decide +kernel)) (by decide +kernel)))
  have b37 : ∀ (f : mFn) (g : mGn), rI n e f0 f g → X 37 [(0, .inr 0)] [] f g := by
    intro f g  hI
    refine hX.1 1 _ rfl _ _ _ _ ?_
    refine And.intro (fun c33 => ?_) (fun c33 => ?_)
    · -- 74
      exact hX.2 _ _ [(0, .inr 0)] _ _ _ (mWc rfl mW0) (b74  _ _  hI)
    · -- on
      refine And.intro (fun c35 => ?_) (fun c35 => ?_)
      · -- 74
        exact hX.2 _ _ [(0, .inr 0)] _ _ _ (mWc rfl mW0) (b74  _ _  (rP0 hI (by decide +kernel)))
      · -- on
        refine And.intro (rg_in (rg_c (a := 96) (b := 96) (by decide +kernel)) (by decide +kernel)) ?_
        refine And.intro (rg_in (rg_c (a := 96) (b := 96) (by decide +kernel)) (by decide +kernel)) ?_
        exact hX.2 _ _ [(0, .inr 0)] _ _ _ (mWc rfl mW0) (b74  _ _  (gI_a1 (rP0 hI (by decide +kernel)) 2 1280 (lo := 0) (hi := 255) (rg_w (c := 0) (d := 255) (show rg 0 239 _ from (rg_andR (rg_c (a := 239) (b := 239) (by decide +kernel)) (by decide +kernel))) (by decide +kernel)) (by decide +kernel)))
  refine hX.1 0 _ rfl _ _ _ _ ?_
  refine And.intro (fun c37 => ?_) (fun c37 => ?_)
  · -- 37
    exact hX.2 _ _ [(0, .inr 0)] _ _ _ (mWc rfl mW0) (b37  _ _  hI)
  · -- on
    refine And.intro (fun c39 => ?_) (fun c39 => ?_)
    · -- 37
      exact hX.2 _ _ [(0, .inr 0)] _ _ _ (mWc rfl mW0) (b37  _ _  (rP0 hI (by decide +kernel)))
    · -- on
      refine And.intro (rg_in (rg_c (a := 87) (b := 87) (by decide +kernel)) (by decide +kernel)) ?_
      refine And.intro (rg_in (rg_c (a := 87) (b := 87) (by decide +kernel)) (by decide +kernel)) ?_
      exact hX.2 _ _ [(0, .inr 0)] _ _ _ (mWc rfl mW0) (b37  _ _  (gI_a1 (rP0 hI (by decide +kernel)) 2 1280 (lo := 0) (hi := 255) (rg_w (c := 0) (d := 255) (show rg 0 224 _ from (rg_andR (rg_c (a := 224) (b := 224) (by decide +kernel)) (by decide +kernel))) (by decide +kernel)) (by decide +kernel)))
def SPX9_timer (S : mSp) : Prop := ∀ (n e : Int) (f0 f : mFn) (g : mGn) (K : mKr), rI n e f0 f g → (∀ (f' : mFn) (g' : mGn), rI n e f0 f' g' → K none f' g') → S [.inr 0] f g K
set_option maxRecDepth 100000 in
set_option maxHeartbeats 4000000 in
theorem sfX9_timer : SPX9_timer spX9_timer := by
  intro n e f0 f g K   hI hK
  refine ⟨rfl, fun X hX => ?_⟩
  have b208 : ∀ (f : mFn) (g : mGn), rI n e f0 f g → X 208 [] [] f g := by
    intro f g  hI
    refine hX.1 10 _ rfl _ _ _ _ ?_
    exact And.intro mRt_v (hK _ _ hI)
  have b180 : ∀ (f : mFn) (g : mGn), rI n e f0 f g → X 180 [(0, .inr 0)] [] f g := by
    intro f g  hI
    refine hX.1 9 _ rfl _ _ _ _ ?_
    refine And.intro (rg_in (rg_c (a := 70) (b := 70) (by decide +kernel)) (by decide +kernel)) ?_
    refine And.intro (rg_in (rg_c (a := 71) (b := 71) (by decide +kernel)) (by decide +kernel)) ?_
    refine And.intro (fun c20 => ?_) (fun c20 => ?_)
    · -- 208
      exact hX.2 _ _ [] _ _ _ mW0 (b208  _ _  hI)
    · -- on
      refine And.intro (rg_in (rg_c (a := 53) (b := 53) (by decide +kernel)) (by decide +kernel)) ?_
      refine And.intro (rg_in (rg_c (a := 53) (b := 53) (by decide +kernel)) (by decide +kernel)) ?_
      exact hX.2 _ _ [] _ _ _ mW0 (b208  _ _  (gI_a1 hI 2 1280 (lo := 0) (hi := 255) (rg_w (c := 0) (d := 255) (show rg 0 255 _ from (rg_or (k := 8) (gI_g hI 2 3 1280 0 255 rfl (rg_in (rg_c (a := 53) (b := 53) (by decide +kernel)) (by decide +kernel))) (rg_c (a := 2) (b := 2) (by decide +kernel)) (by decide +kernel))) (by decide +kernel)) (by decide +kernel)))
  have b139 : ∀ (f : mFn) (g : mGn), rI n e f0 f g → X 139 [(0, .inr 0)] [] f g := by
    intro f g  hI
    refine hX.1 8 _ rfl _ _ _ _ ?_
    refine And.intro (rg_in (rg_c (a := 70) (b := 70) (by decide +kernel)) (by decide +kernel)) ?_
    refine And.intro (rg_in (rg_c (a := 70) (b := 70) (by decide +kernel)) (by decide +kernel)) ?_
    refine And.intro (rg_in (rg_c (a := 70) (b := 70) (by decide +kernel)) (by decide +kernel)) ?_
    refine And.intro (fun c23 => ?_) (fun c23 => ?_)
    · -- 180
      exact hX.2 _ _ [(0, .inr 0)] _ _ _ (mWc rfl mW0) (b180  _ _  (gI_a1 hI 2 1280 (lo := 0) (hi := 255) (rg_w (c := 0) (d := 255) (show rg 0 255 _ from (rg_andR (rg_c (a := 255) (b := 255) (by decide +kernel)) (by decide +kernel))) (by decide +kernel)) (by decide +kernel)))
    · -- on
      refine And.intro (rg_in (rg_c (a := 53) (b := 53) (by decide +kernel)) (by decide +kernel)) ?_
      refine And.intro (rg_in (rg_c (a := 53) (b := 53) (by decide +kernel)) (by decide +kernel)) ?_
      exact hX.2 _ _ [(0, .inr 0)] _ _ _ (mWc rfl mW0) (b180  _ _  (gI_a1 (gI_a1 hI 2 1280 (lo := 0) (hi := 255) (rg_w (c := 0) (d := 255) (show rg 0 255 _ from (rg_andR (rg_c (a := 255) (b := 255) (by decide +kernel)) (by decide +kernel))) (by decide +kernel)) (by decide +kernel)) 2 1280 (lo := 0) (hi := 255) (rg_w (c := 0) (d := 255) (show rg 0 255 _ from (rg_or (k := 8) (gI_g (gI_a1 hI 2 1280 (lo := 0) (hi := 255) (rg_w (c := 0) (d := 255) (show rg 0 255 _ from (rg_andR (rg_c (a := 255) (b := 255) (by decide +kernel)) (by decide +kernel))) (by decide +kernel)) (by decide +kernel)) 2 3 1280 0 255 rfl (rg_in (rg_c (a := 53) (b := 53) (by decide +kernel)) (by decide +kernel))) (rg_c (a := 1) (b := 1) (by decide +kernel)) (by decide +kernel))) (by decide +kernel)) (by decide +kernel)))
  have b93 : ∀ (s0 : Int32) (f : mFn) (g : mGn), rg 0 1 s0 → rI n e f0 f g → X 93 [(0, .inr 0)] [.inl s0] f g := by
    intro s0 f g hs0 hI
    refine hX.1 6 _ rfl _ _ _ _ ?_
    refine And.intro (fun c25 => ?_) (fun c25 => ?_)
    · -- 99
      refine hX.1 7 _ rfl _ _ _ _ ?_
      refine And.intro (rg_in (rg_c (a := 68) (b := 68) (by decide +kernel)) (by decide +kernel)) ?_
      refine And.intro (fun c26 => ?_) (fun c26 => ?_)
      · -- 139
        exact hX.2 _ _ [(0, .inr 0)] _ _ _ (mWc rfl mW0) (b139  _ _  hI)
      · -- on
        refine And.intro (rg_in (rg_c (a := 70) (b := 70) (by decide +kernel)) (by decide +kernel)) ?_
        refine And.intro (rg_in (rg_c (a := 71) (b := 71) (by decide +kernel)) (by decide +kernel)) ?_
        refine And.intro (fun c27 => ?_) (fun c27 => ?_)
        · -- 139
          exact hX.2 _ _ [(0, .inr 0)] _ _ _ (mWc rfl mW0) (b139  _ _  hI)
        · -- on
          refine And.intro (rg_in (rg_c (a := 70) (b := 70) (by decide +kernel)) (by decide +kernel)) ?_
          exact hX.2 _ _ [(0, .inr 0)] _ _ _ (mWc rfl mW0) (b180  _ _  (gI_a1 hI 2 1280 (lo := 0) (hi := 255) (rg_w (c := 0) (d := 255) (rg_c (a := 0) (b := 0) (by decide +kernel)) (by decide +kernel)) (by decide +kernel)))
    · -- on
      exact And.intro mRt_v (hK _ _ hI)
  have b88 : ∀ (f : mFn) (g : mGn), rI n e f0 f g → X 88 [(0, .inr 0)] [] f g := by
    intro f g  hI
    refine hX.1 4 _ rfl _ _ _ _ ?_
    exact hX.2 _ _ [(0, .inr 0)] _ _ _ (mWc rfl mW0) (b93 _ _ _ (rg_w (c := 0) (d := 1) (rg_c (a := 1) (b := 1) (by decide +kernel)) (by decide +kernel)) hI)
  have b92 : ∀ (f : mFn) (g : mGn), rI n e f0 f g → X 92 [(0, .inr 0)] [] f g := by
    intro f g  hI
    refine hX.1 5 _ rfl _ _ _ _ ?_
    exact hX.2 _ _ [(0, .inr 0)] _ _ _ (mWc rfl mW0) (b93 _ _ _ (rg_w (c := 0) (d := 1) (rg_c (a := 0) (b := 0) (by decide +kernel)) (by decide +kernel)) hI)
  have b76 : ∀ (a1 : Int32) (f : mFn) (g : mGn), rg 0 7 a1 → rI n e f0 f g → X 76 [(0, .inr 0), (1, .inl a1)] [] f g := by
    intro a1 f g ha1 hI
    refine hX.1 3 _ rfl _ _ _ _ ?_
    refine And.intro (fun c29 => ?_) (fun c29 => ?_)
    · -- 92
      exact hX.2 _ _ [(0, .inr 0)] _ _ _ (mWc rfl mW0) (b92  _ _  hI)
    · -- on
      refine And.intro (fun c30 => ?_) (fun c30 => ?_)
      · -- 92
        exact hX.2 _ _ [(0, .inr 0)] _ _ _ (mWc rfl mW0) (b92  _ _  hI)
      · -- on
        exact hX.2 _ _ [(0, .inr 0)] _ _ _ (mWc rfl mW0) (b88  _ _  hI)
  have b60 : ∀ (a1 : Int32) (f : mFn) (g : mGn), rg 0 7 a1 → rI n e f0 f g → X 60 [(0, .inr 0), (1, .inl a1)] [] f g := by
    intro a1 f g ha1 hI
    refine hX.1 2 _ rfl _ _ _ _ ?_
    refine And.intro (fun c31 => ?_) (fun c31 => ?_)
    · -- 76
      exact hX.2 _ _ [(0, .inr 0), (1, .inl _)] _ _ _ (mWc rfl (mWc rfl mW0)) (b76 _ _ _ (rg_w (c := 0) (d := 7) ha1 (by decide +kernel)) hI)
    · -- on
      refine And.intro (by decide +kernel) ?_
      refine And.intro (fun c32 => ?_) (fun c32 => ?_)
      · -- 88
        exact hX.2 _ _ [(0, .inr 0)] _ _ _ (mWc rfl mW0) (b88  _ _  hI)
      · -- on
        exact hX.2 _ _ [(0, .inr 0), (1, .inl _)] _ _ _ (mWc rfl (mWc rfl mW0)) (b76 _ _ _ (rg_w (c := 0) (d := 7) (show rg 4 4 _ from (rg_eq (rg_c (a := 4) (b := 4) (by decide +kernel)) c31)) (by decide +kernel)) hI)
  have b45 : ∀ (a1 : Int32) (f : mFn) (g : mGn), rg 0 7 a1 → rI n e f0 f g → X 45 [(0, .inr 0), (1, .inl a1)] [] f g := by
    intro a1 f g ha1 hI
    refine hX.1 1 _ rfl _ _ _ _ ?_
    refine And.intro (fun c33 => ?_) (fun c33 => ?_)
    · -- 60
      exact hX.2 _ _ [(0, .inr 0), (1, .inl _)] _ _ _ (mWc rfl (mWc rfl mW0)) (b60 _ _ _ (rg_w (c := 0) (d := 7) ha1 (by decide +kernel)) hI)
    · -- on
      refine And.intro (by decide +kernel) ?_
      refine And.intro (fun c34 => ?_) (fun c34 => ?_)
      · -- 88
        exact hX.2 _ _ [(0, .inr 0)] _ _ _ (mWc rfl mW0) (b88  _ _  hI)
      · -- on
        exact hX.2 _ _ [(0, .inr 0), (1, .inl _)] _ _ _ (mWc rfl (mWc rfl mW0)) (b60 _ _ _ (rg_w (c := 0) (d := 7) (show rg 3 3 _ from (rg_eq (rg_c (a := 3) (b := 3) (by decide +kernel)) c33)) (by decide +kernel)) hI)
  refine hX.1 0 _ rfl _ _ _ _ ?_
  refine And.intro (rg_in (rg_c (a := 69) (b := 69) (by decide +kernel)) (by decide +kernel)) ?_
  refine And.intro (fun c36 => ?_) (fun c36 => ?_)
  · -- 88
    exact hX.2 _ _ [(0, .inr 0)] _ _ _ (mWc rfl mW0) (b88  _ _  (rP0 hI (by decide +kernel)))
  · -- on
    refine And.intro (fun c37 => ?_) (fun c37 => ?_)
    · -- 45
      exact hX.2 _ _ [(0, .inr 0), (1, .inl _)] _ _ _ (mWc rfl (mWc rfl mW0)) (b45 _ _ _ (rg_w (c := 0) (d := 7) (show rg 0 7 _ from (rg_andR (rg_c (a := 7) (b := 7) (by decide +kernel)) (by decide +kernel))) (by decide +kernel)) (rP0 hI (by decide +kernel)))
    · -- on
      refine And.intro (by decide +kernel) ?_
      refine And.intro (fun c38 => ?_) (fun c38 => ?_)
      · -- 88
        exact hX.2 _ _ [(0, .inr 0)] _ _ _ (mWc rfl mW0) (b88  _ _  (rP0 hI (by decide +kernel)))
      · -- on
        exact hX.2 _ _ [(0, .inr 0), (1, .inl _)] _ _ _ (mWc rfl (mWc rfl mW0)) (b45 _ _ _ (rg_w (c := 0) (d := 7) (show rg 0 7 _ from (rg_andR (rg_c (a := 7) (b := 7) (by decide +kernel)) (by decide +kernel))) (by decide +kernel)) (rP0 hI (by decide +kernel)))
def SPX9_passes (S : mSp) : Prop := ∀ (n e : Int) (f0 f : mFn) (g : mGn) (K : mKr), rI n e f0 f g → (∀ (y : Int32) (f' : mFn) (g' : mGn), rg 0 1 y → rI n e f0 f' g' → K (some (.inl y)) f' g') → S [.inr 0] f g K
set_option maxRecDepth 100000 in
set_option maxHeartbeats 4000000 in
theorem sfX9_passes : SPX9_passes spX9_passes := by
  intro n e f0 f g K   hI hK
  refine ⟨rfl, fun X hX => ?_⟩
  obtain ⟨S_X9_windows, k_X9_windows, S_X9_timer, k_X9_timer, S_X9_line, k_X9_line, S_X9_dog, k_X9_dog, hX⟩ : ∃ S_X9_windows, SPX9_windows S_X9_windows ∧ ∃ S_X9_timer, SPX9_timer S_X9_timer ∧ ∃ S_X9_line, SPX9_line S_X9_line ∧ ∃ S_X9_dog, SPX9_dog S_X9_dog ∧ mR shM fdX9_passes [(182, 0, 0, 12, S_X9_windows), (185, 0, 0, 12, S_X9_timer), (188, 0, 0, 12, S_X9_line), (191, 0, 0, 12, S_X9_dog)] bsX9_passes (fun r f g => mRt (some .boolean) r ∧ K r f g) X := ⟨spX9_windows, sfX9_windows, spX9_timer, sfX9_timer, spX9_line, sfX9_line, spX9_dog, sfX9_dog, hX⟩
  have b59 : ∀ (f : mFn) (g : mGn), rI n e f0 f g → X 59 [(0, .inr 0)] [] f g := by
    intro f g  hI
    refine hX.1 1 _ rfl _ _ _ _ ?_
    refine k_X9_dog n e f0 _ _ _  hI (fun y18 f19 gf19 hy18 hI20 => ?_)
    exact And.intro (mRt_z (rg_01 hy18 (by decide +kernel))) (hK _ _ _ (rg_w (c := 0) (d := 1) hy18 (by decide +kernel)) hI20)
  refine hX.1 0 _ rfl _ _ _ _ ?_
  refine k_X9_windows n e f0 _ _ _  (rP0 hI (by decide +kernel)) (fun f23 gf23 hI24 => ?_)
  refine k_X9_timer n e f0 _ _ _  hI24 (fun f26 gf26 hI27 => ?_)
  refine k_X9_line n e f0 _ _ _  hI27 (fun f29 gf29 hI30 => ?_)
  refine And.intro (fun c31 => ?_) (fun c31 => ?_)
  · -- 59
    exact hX.2 _ _ [(0, .inr 0)] _ _ _ (mWc rfl mW0) (b59  _ _  hI30)
  · -- on
    refine And.intro (fun c33 => ?_) (fun c33 => ?_)
    · -- 59
      exact hX.2 _ _ [(0, .inr 0)] _ _ _ (mWc rfl mW0) (b59  _ _  (rP0 hI30 (by decide +kernel)))
    · -- on
      refine And.intro (rg_in (rg_c (a := 63) (b := 63) (by decide +kernel)) (by decide +kernel)) ?_
      refine And.intro (rg_in (rg_c (a := 63) (b := 63) (by decide +kernel)) (by decide +kernel)) ?_
      exact hX.2 _ _ [(0, .inr 0)] _ _ _ (mWc rfl mW0) (b59  _ _  (gI_a1 (rP0 hI30 (by decide +kernel)) 2 1280 (lo := 0) (hi := 255) (rg_w (c := 0) (d := 255) (show rg 0 253 _ from (rg_andR (rg_c (a := 253) (b := 253) (by decide +kernel)) (by decide +kernel))) (by decide +kernel)) (by decide +kernel)))
def SPX9_stepped (S : mSp) : Prop := ∀ (n e : Int) (f0 f : mFn) (g : mGn) (K : mKr), n + 2 ≤ 300000000 → rI n 8000 f0 f g → (∀ (y : Int32) (f' : mFn) (g' : mGn), rI (n + 2) 8000 f0 f' g' → K (some (.inl y)) f' g') → S [.inr 0] f g K
-- by hand: loop
theorem sfX9_stepped : SPX9_stepped spX9_stepped := by
  sorry
def SPX9_pass (S : mSp) : Prop := ∀ (n e : Int) (f0 f : mFn) (g : mGn) (K : mKr) (x1 : Int32), n + 4 ≤ 300000000 → rI n 8000 f0 f g → (∀ (y : Int32) (f' : mFn) (g' : mGn), rI (n + 4) 8000 f0 f' g' → K (some (.inl y)) f' g') → S [.inr 0, .inl x1] f g K
-- by hand: loop
theorem sfX9_pass : SPX9_pass spX9_pass := by
  sorry
def SPX9_pins (S : mSp) : Prop := ∀ (n e : Int) (f0 f : mFn) (g : mGn) (K : mKr) (x1 : Int32), rI n e f0 f g → (∀ (y : Int32) (f' : mFn) (g' : mGn), rg 0 255 y → rI n e f0 f' g' → K (some (.inl y)) f' g') → S [.inr 0, .inl x1] f g K
-- by hand: writes counted scalar 8
theorem sfX9_pins : SPX9_pins spX9_pins := by
  sorry
def SPX9_power (S : mSp) : Prop := ∀ (n e : Int) (f0 f : mFn) (g : mGn) (K : mKr) (x1 : Int32), rg 0 1 x1 → rI n e f0 f g → (∀ (y : Int32) (f' : mFn) (g' : mGn), rg 0 1 y → rI n e f0 f' g' → K (some (.inl y)) f' g') → S [.inr 0, .inl x1] f g K
-- by hand: writes counted scalar 9
theorem sfX9_power : SPX9_power spX9_power := by
  sorry
def SPX9_put (S : mSp) : Prop := ∀ (n e : Int) (f0 f : mFn) (g : mGn) (K : mKr) (x1 : Int32) (x2 : Int32), rI n e f0 f g → (∀ (f' : mFn) (g' : mGn), rI n e f0 f' g' → K none f' g') → S [.inr 0, .inl x1, .inl x2] f g K
-- by hand: index -2147483648..2147483647 of 1280 at 58
theorem sfX9_put : SPX9_put spX9_put := by
  sorry
def SPX9_reset (S : mSp) : Prop := ∀ (n e : Int) (f0 f : mFn) (g : mGn) (K : mKr), rI n e f0 f g → (∀ (f' : mFn) (g' : mGn), rI n e f0 f' g' → K none f' g') → S [.inr 0] f g K
set_option maxRecDepth 100000 in
set_option maxHeartbeats 4000000 in
theorem sfX9_reset : SPX9_reset spX9_reset := by
  intro n e f0 f g K   hI hK
  refine ⟨rfl, fun X hX => ?_⟩
  obtain ⟨S_X9_restart, k_X9_restart, hX⟩ : ∃ S_X9_restart, SPX9_restart S_X9_restart ∧ mR shM fdX9_reset [(56, 0, 1, 12, S_X9_restart)] bsX9_reset (fun r f g => mRt none r ∧ K r f g) X := ⟨spX9_restart, sfX9_restart, hX⟩
  have b17 : ∀ (f : mFn) (g : mGn), rI n e f0 f g → X 17 [] [] f g := by
    intro f g  hI
    refine hX.1 1 _ rfl _ _ _ _ ?_
    exact And.intro mRt_v (hK _ _ hI)
  refine hX.1 0 _ rfl _ _ _ _ ?_
  refine And.intro (fun c7 => ?_) (fun c7 => ?_)
  · -- 17
    exact hX.2 _ _ [] _ _ _ mW0 (b17  _ _  (rP1 0 (rg_w (c := 0) (d := 1) (rg_c (a := 0) (b := 0) (by decide +kernel)) (by decide +kernel)) hI (by decide +kernel)))
  · -- on
    refine k_X9_restart n e f0 _ _ _ _ (rg_w (c := 1) (d := 8) (rg_c (a := 2) (b := 2) (by decide +kernel)) (by decide +kernel)) (rP1 0 (rg_w (c := 0) (d := 1) (rg_c (a := 0) (b := 0) (by decide +kernel)) (by decide +kernel)) hI (by decide +kernel)) (fun f9 gf9 hI10 => ?_)
    exact hX.2 _ _ [] _ _ _ mW0 (b17  _ _  hI10)
def SPX9_run (S : mSp) : Prop := ∀ (n e : Int) (f0 f : mFn) (g : mGn) (K : mKr) (x1 : Int32), n + 4 ≤ 300000000 → rI n 8000 f0 f g → (∀ (y : Int32) (f' : mFn) (g' : mGn), rI (n + 4) 8000 f0 f' g' → K (some (.inl y)) f' g') → S [.inr 0, .inl x1] f g K
-- by hand: loop
theorem sfX9_run : SPX9_run spX9_run := by
  sorry
def SPX9_sent (S : mSp) : Prop := ∀ (n e : Int) (f0 f : mFn) (g : mGn) (K : mKr), rI n e f0 f g → (∀ (y : Int32) (f' : mFn) (g' : mGn), rg 0 2147483647 y → rI n e f0 f' g' → K (some (.inl y)) f' g') → S [.inr 0] f g K
set_option maxRecDepth 100000 in
set_option maxHeartbeats 4000000 in
theorem sfX9_sent : SPX9_sent spX9_sent := by
  intro n e f0 f g K   hI hK
  refine ⟨rfl, fun X hX => ?_⟩
  refine hX.1 0 _ rfl _ _ _ _ ?_
  exact And.intro mRt_i (hK _ _ _ (rg_w (c := 0) (d := 2147483647) (gI_s (rP1 0 (rg_w (c := 0) (d := 1) (rg_c (a := 0) (b := 0) (by decide +kernel)) (by decide +kernel)) hI (by decide +kernel)) 13 36 0 2147483647 rfl) (by decide +kernel)) (rP1 0 (rg_w (c := 0) (d := 1) (rg_c (a := 0) (b := 0) (by decide +kernel)) (by decide +kernel)) hI (by decide +kernel)))
def SPX9_start (S : mSp) : Prop := ∀ (n e : Int) (f0 f : mFn) (g : mGn) (K : mKr) (x1 : Int32), rI n e f0 f g → (∀ (f' : mFn) (g' : mGn), rI n e f0 f' g' → K none f' g') → S [.inr 0, .inl x1] f g K
-- by hand: scalar 12 of -2147483648..2147483647
theorem sfX9_start : SPX9_start spX9_start := by
  sorry
def SPX9_step (S : mSp) : Prop := ∀ (n e : Int) (f0 f : mFn) (g : mGn) (K : mKr), n + 2 ≤ 300000000 → rI n 8000 f0 f g → (∀ (y : Int32) (f' : mFn) (g' : mGn), rI (n + 2) 8000 f0 f' g' → K (some (.inl y)) f' g') → S [.inr 0] f g K
set_option maxRecDepth 100000 in
set_option maxHeartbeats 4000000 in
theorem sfX9_step : SPX9_step spX9_step := by
  intro n e f0 f g K   hB hI hK
  refine ⟨rfl, fun X hX => ?_⟩
  obtain ⟨S_X9_stepped, k_X9_stepped, hX⟩ : ∃ S_X9_stepped, SPX9_stepped S_X9_stepped ∧ mR shM fdX9_step [(356, 0, 0, 12, S_X9_stepped)] bsX9_step (fun r f g => mRt (some .int) r ∧ K r f g) X := ⟨spX9_stepped, sfX9_stepped, hX⟩
  have b20 : ∀ (s0 : Int32) (f : mFn) (g : mGn), rI (n + 2) 8000 f0 f g → X 20 [] [.inl s0] f g := by
    intro s0 f g  hI
    refine hX.1 2 _ rfl _ _ _ _ ?_
    exact And.intro mRt_i (hK _ _ _ hI)
  refine hX.1 0 _ rfl _ _ _ _ ?_
  refine And.intro (fun c7 => ?_) (fun c7 => ?_)
  · -- 19
    refine hX.1 1 _ rfl _ _ _ _ ?_
    exact hX.2 _ _ [] _ _ _ mW0 (b20 _ _ _  (rM (rP1 0 (rg_w (c := 0) (d := 1) (rg_c (a := 0) (b := 0) (by decide +kernel)) (by decide +kernel)) hI (by decide +kernel)) (by omega) (by omega)))
  · -- on
    refine k_X9_stepped n 8000 f0 _ _ _   (by omega) (rP1 0 (rg_w (c := 0) (d := 1) (rg_c (a := 0) (b := 0) (by decide +kernel)) (by decide +kernel)) hI (by decide +kernel)) (fun y8 f9 gf9 hI10 => ?_)
    exact hX.2 _ _ [] _ _ _ mW0 (b20 _ _ _  hI10)
def SPX9_thrown (S : mSp) : Prop := ∀ (n e : Int) (f0 f : mFn) (g : mGn) (K : mKr), rI n e f0 f g → (∀ (y : Int32), rg 0 1 y → K (some (.inl y)) f g) → S [.inr 0] f g K
set_option maxRecDepth 100000 in
set_option maxHeartbeats 4000000 in
theorem sfX9_thrown : SPX9_thrown spX9_thrown := by
  intro n e f0 f g K   hI hK
  refine ⟨rfl, fun X hX => ?_⟩
  refine hX.1 0 _ rfl _ _ _ _ ?_
  exact And.intro mRt_i (hK _ (rg_w (c := 0) (d := 1) (gI_s hI 0 0 0 1 rfl) (by decide +kernel)) )
def SPX9_word (S : mSp) : Prop := ∀ (n e : Int) (f0 f : mFn) (g : mGn) (K : mKr) (x1 : Int32), rI n e f0 f g → (∀ (y : Int32) (f' : mFn) (g' : mGn), rg 0 65535 y → rI n e f0 f' g' → K (some (.inl y)) f' g') → S [.inr 0, .inl x1] f g K
-- by hand: index -2147483648..2147483647 of 2048 at 28
theorem sfX9_word : SPX9_word spX9_word := by
  sorry

