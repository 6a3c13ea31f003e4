def SPX9_loads (S : mSp) : Prop := ∀ (n e : Int) (f0 f : mFn) (g : mGn) (K : mKr) (x1 : Int32), rg 0 65535 x1 → rI n e f0 f g → (∀ (y : Int32) (f' : mFn) (g' : mGn), rg 1 3 y → rI n e f0 f' g' → K (some (.inl y)) f' g') → S [.inr 0, .inl x1] f g K
set_option maxRecDepth 100000 in
set_option maxHeartbeats 4000000 in
theorem sfX9_loads : SPX9_loads spX9_loads := by
  intro n e f0 f g K x1 hx1 hI hK
  refine ⟨rfl, fun X hX => ?_⟩
  obtain ⟨S_X9_pointer, k_X9_pointer, S_X9_flashByte, k_X9_flashByte, S_X9_setPointer, k_X9_setPointer, S_X9_pop, k_X9_pop, S_X9_place, k_X9_place, S_X9_load, k_X9_load, hX⟩ : ∃ S_X9_pointer, SPX9_pointer S_X9_pointer ∧ ∃ S_X9_flashByte, SPX9_flashByte S_X9_flashByte ∧ ∃ S_X9_setPointer, SPX9_setPointer S_X9_setPointer ∧ ∃ S_X9_pop, SPX9_pop S_X9_pop ∧ ∃ S_X9_place, SPX9_place S_X9_place ∧ ∃ S_X9_load, SPX9_load S_X9_load ∧ mR shM fdX9_loads [(231, 0, 1, 12, S_X9_pointer), (327, 0, 1, 12, S_X9_flashByte), (238, 0, 2, 12, S_X9_setPointer), (247, 0, 0, 12, S_X9_pop), (330, 0, 1, 12, S_X9_place), (241, 0, 1, 12, S_X9_load)] bsX9_loads (fun r f g => mRt (some .int) r ∧ K r f g) X := ⟨spX9_pointer, sfX9_pointer, spX9_flashByte, sfX9_flashByte, spX9_setPointer, sfX9_setPointer, spX9_pop, sfX9_pop, spX9_place, sfX9_place, spX9_load, sfX9_load, hX⟩
  have b53 : ∀ (a2 : Int32) (a5 : Int32) (f : mFn) (g : mGn), rg 0 31 a2 → rg 0 255 a5 → rI n e f0 f g → X 53 [(0, .inr 0), (2, .inl a2), (5, .inl a5)] [] f g := by
    intro a2 a5 f g ha2 ha5 hI
    refine hX.1 2 _ rfl _ _ _ _ ?_
    refine And.intro (rg_in ha2 (by decide +kernel)) ?_
    exact And.intro mRt_i (hK _ _ _ (rg_w (c := 1) (d := 3) (rg_c (a := 3) (b := 3) (by decide +kernel)) (by decide +kernel)) (gI_a1 hI 2 1280 (lo := 0) (hi := 255) (rg_w (c := 0) (d := 255) ha5 (by decide +kernel)) (by decide +kernel)))
  have b22 : ∀ (a2 : Int32) (a3 : Int32) (f : mFn) (g : mGn), rg 0 31 a2 → rg 4 5 a3 → rI n e f0 f g → X 22 [(0, .inr 0), (2, .inl a2), (3, .inl a3)] [] f g := by
    intro a2 a3 f g ha2 ha3 hI
    refine hX.1 1 _ rfl _ _ _ _ ?_
    refine k_X9_pointer n e f0 _ _ _ _ (rg_w (c := 0) (d := 93) (rg_c (a := 30) (b := 30) (by decide +kernel)) (by decide +kernel)) hI (fun y28 hy28 => ?_)
    refine k_X9_flashByte n e f0 _ _ _ _ (rg_w (c := 0) (d := 65535) hy28 (by decide +kernel)) hI (fun y31 f32 gf32 hy31 hI33 => ?_)
    refine And.intro (fun c34 => ?_) (fun c34 => ?_)
    · -- 53
      exact hX.2 _ _ [(0, .inr 0), (2, .inl _), (5, .inl _)] _ _ _ (mWc rfl (mWc rfl (mWc rfl mW0))) (b53 _ _ _ _ (rg_w (c := 0) (d := 31) ha2 (by decide +kernel)) (rg_w (c := 0) (d := 255) hy31 (by decide +kernel)) hI33)
    · -- on
      refine k_X9_setPointer n e f0 _ _ _ _ _ (rg_w (c := 0) (d := 93) (rg_c (a := 30) (b := 30) (by decide +kernel)) (by decide +kernel)) (rg_w (c := (-1)) (d := 65536) (show rg 1 65536 _ from (rg_add hy28 (rg_c (a := 1) (b := 1) (by decide +kernel)) (by decide +kernel))) (by decide +kernel)) hI33 (fun f36 gf36 hI37 => ?_)
      exact hX.2 _ _ [(0, .inr 0), (2, .inl _), (5, .inl _)] _ _ _ (mWc rfl (mWc rfl (mWc rfl mW0))) (b53 _ _ _ _ (rg_w (c := 0) (d := 31) ha2 (by decide +kernel)) (rg_w (c := 0) (d := 255) hy31 (by decide +kernel)) hI37)
  refine hX.1 0 _ rfl _ _ _ _ ?_
  refine And.intro (fun c38 => ?_) (fun c38 => ?_)
  · -- 22
    exact hX.2 _ _ [(0, .inr 0), (2, .inl _), (3, .inl _)] _ _ _ (mWc rfl (mWc rfl (mWc rfl mW0))) (b22 _ _ _ _ (rg_w (c := 0) (d := 31) (show rg 0 31 _ from (rg_andR (rg_c (a := 31) (b := 31) (by decide +kernel)) (by decide +kernel))) (by decide +kernel)) (rg_w (c := 4) (d := 5) (show rg 4 4 _ from (rg_eq (rg_c (a := 4) (b := 4) (by decide +kernel)) c38)) (by decide +kernel)) hI)
  · -- on
    refine And.intro (fun c39 => ?_) (fun c39 => ?_)
    · -- 63
      refine hX.1 3 _ rfl _ _ _ _ ?_
      refine And.intro (fun c40 => ?_) (fun c40 => ?_)
      · -- 81
        refine hX.1 4 _ rfl _ _ _ _ ?_
        refine k_X9_place n e f0 _ _ _ _ (rg_w (c := 0) (d := 14) (show rg 0 14 _ from (rg_neH (show rg 0 15 _ from (rg_andR (rg_c (a := 15) (b := 15) (by decide +kernel)) (by decide +kernel))) (rg_c (a := 15) (b := 15) (by decide +kernel)) c40 (by decide +kernel))) (by decide +kernel)) hI (fun y41 f42 gf42 hy41 hI43 => ?_)
        refine And.intro (fun c44 => ?_) (fun c44 => ?_)
        · -- 96
          refine hX.1 5 _ rfl _ _ _ _ ?_
          refine k_X9_load n e f0 _ _ _ _ (rg_w (c := 0) (d := 65535) (show rg 0 65535 _ from (rg_neL hy41 (rg_c (a := (-1)) (b := (-1)) (by decide +kernel)) c44 (by decide +kernel))) (by decide +kernel)) hI43 (fun y45 f46 gf46 hy45 hI47 => ?_)
          refine And.intro (rg_in (show rg 0 31 _ from (rg_andR (rg_c (a := 31) (b := 31) (by decide +kernel)) (by decide +kernel))) (by decide +kernel)) ?_
          exact And.intro mRt_i (hK _ _ _ (rg_w (c := 1) (d := 3) (rg_c (a := 2) (b := 2) (by decide +kernel)) (by decide +kernel)) (gI_a1 hI47 2 1280 (lo := 0) (hi := 255) (rg_w (c := 0) (d := 255) hy45 (by decide +kernel)) (by decide +kernel)))
        · -- on
          exact And.intro mRt_i (hK _ _ _ (rg_w (c := 1) (d := 3) (rg_c (a := 1) (b := 1) (by decide +kernel)) (by decide +kernel)) hI43)
      · -- on
        refine k_X9_pop n e f0 _ _ _  hI (fun y49 f50 gf50 hy49 hI51 => ?_)
        refine And.intro (rg_in (show rg 0 31 _ from (rg_andR (rg_c (a := 31) (b := 31) (by decide +kernel)) (by decide +kernel))) (by decide +kernel)) ?_
        exact And.intro mRt_i (hK _ _ _ (rg_w (c := 1) (d := 3) (rg_c (a := 2) (b := 2) (by decide +kernel)) (by decide +kernel)) (gI_a1 hI51 2 1280 (lo := 0) (hi := 255) (rg_w (c := 0) (d := 255) hy49 (by decide +kernel)) (by decide +kernel)))
    · -- on
      exact hX.2 _ _ [(0, .inr 0), (2, .inl _), (3, .inl _)] _ _ _ (mWc rfl (mWc rfl (mWc rfl mW0))) (b22 _ _ _ _ (rg_w (c := 0) (d := 31) (show rg 0 31 _ from (rg_andR (rg_c (a := 31) (b := 31) (by decide +kernel)) (by decide +kernel))) (by decide +kernel)) (rg_w (c := 4) (d := 5) (show rg 5 5 _ from (rg_eq (rg_c (a := 5) (b := 5) (by decide +kernel)) c39)) (by decide +kernel)) hI)
def SPX9_stores (S : mSp) : Prop := ∀ (n e : Int) (f0 f : mFn) (g : mGn) (K : mKr) (x1 : Int32), rg 0 65535 x1 → n + 1 ≤ 300000000 → rI n e f0 f g → (∀ (y : Int32) (f' : mFn) (g' : mGn), rg 1 2 y → rI (n + 1) e f0 f' g' → K (some (.inl y)) f' g') → S [.inr 0, .inl x1] f g K
set_option maxRecDepth 100000 in
set_option maxHeartbeats 4000000 in
theorem sfX9_stores : SPX9_stores spX9_stores := by
  intro n e f0 f g K x1 hx1 hB hI hK
  refine ⟨rfl, fun X hX => ?_⟩
  obtain ⟨S_X9_push, k_X9_push, S_X9_place, k_X9_place, S_X9_store, k_X9_store, hX⟩ : ∃ S_X9_push, SPX9_push S_X9_push ∧ ∃ S_X9_place, SPX9_place S_X9_place ∧ ∃ S_X9_store, SPX9_store S_X9_store ∧ mR shM fdX9_stores [(244, 0, 1, 12, S_X9_push), (330, 0, 1, 12, S_X9_place), (234, 0, 2, 12, S_X9_store)] bsX9_stores (fun r f g => mRt (some .int) r ∧ K r f g) X := ⟨spX9_push, sfX9_push, spX9_place, sfX9_place, spX9_store, sfX9_store, hX⟩
  refine hX.1 0 _ rfl _ _ _ _ ?_
  refine And.intro (rg_in (show rg 0 31 _ from (rg_andR (rg_c (a := 31) (b := 31) (by decide +kernel)) (by decide +kernel))) (by decide +kernel)) ?_
  refine And.intro (fun c12 => ?_) (fun c12 => ?_)
  · -- 30
    refine hX.1 1 _ rfl _ _ _ _ ?_
    refine k_X9_place n e f0 _ _ _ _ (rg_w (c := 0) (d := 14) (show rg 0 14 _ from (rg_neH (show rg 0 15 _ from (rg_andR (rg_c (a := 15) (b := 15) (by decide +kernel)) (by decide +kernel))) (rg_c (a := 15) (b := 15) (by decide +kernel)) c12 (by decide +kernel))) (by decide +kernel)) hI (fun y13 f14 gf14 hy13 hI15 => ?_)
    refine And.intro (fun c16 => ?_) (fun c16 => ?_)
    · -- 45
      refine hX.1 2 _ rfl _ _ _ _ ?_
      refine k_X9_store n e f0 _ _ _ _ _ (rg_w (c := 0) (d := 65535) (show rg 0 65535 _ from (rg_neL hy13 (rg_c (a := (-1)) (b := (-1)) (by decide +kernel)) c16 (by decide +kernel))) (by decide +kernel)) (rg_w (c := 0) (d := 255) (gI_g hI 2 3 1280 0 255 rfl (rg_in (show rg 0 31 _ from (rg_andR (rg_c (a := 31) (b := 31) (by decide +kernel)) (by decide +kernel))) (by decide +kernel))) (by decide +kernel)) (by omega) hI15 (fun f18 gf18 hI19 => ?_)
      exact And.intro mRt_i (hK _ _ _ (rg_w (c := 1) (d := 2) (rg_c (a := 2) (b := 2) (by decide +kernel)) (by decide +kernel)) hI19)
    · -- on
      exact And.intro mRt_i (hK _ _ _ (rg_w (c := 1) (d := 2) (rg_c (a := 1) (b := 1) (by decide +kernel)) (by decide +kernel)) (rM hI15 (by omega) (by omega)))
  · -- on
    refine k_X9_push n e f0 _ _ _ _ (rg_w (c := 0) (d := 255) (gI_g hI 2 3 1280 0 255 rfl (rg_in (show rg 0 31 _ from (rg_andR (rg_c (a := 31) (b := 31) (by decide +kernel)) (by decide +kernel))) (by decide +kernel))) (by decide +kernel)) (by omega) hI (fun f21 gf21 hI22 => ?_)
    exact And.intro mRt_i (hK _ _ _ (rg_w (c := 1) (d := 2) (rg_c (a := 2) (b := 2) (by decide +kernel)) (by decide +kernel)) hI22)
def SPX9_shifted (S : mSp) : Prop := ∀ (n e : Int) (f0 f : mFn) (g : mGn) (K : mKr) (x1 : Int32) (x2 : Int32) (x3 : Int32), rg 0 65535 x1 → rg 0 31 x2 → rg 0 255 x3 → rI n e f0 f g → (∀ (y : Int32) (f' : mFn) (g' : mGn), rg 1 1 y → rI n e f0 f' g' → K (some (.inl y)) f' g') → S [.inr 0, .inl x1, .inl x2, .inl x3] f g K
set_option maxRecDepth 100000 in
set_option maxHeartbeats 4000000 in
theorem sfX9_shifted : SPX9_shifted spX9_shifted := by
  intro n e f0 f g K x1 x2 x3 hx1 hx2 hx3 hI hK
  refine ⟨rfl, fun X hX => ?_⟩
  obtain ⟨S_X9_carry, k_X9_carry, S_X9_setFlag, k_X9_setFlag, S_X9_flag, k_X9_flag, S_X9_zero, k_X9_zero, hX⟩ : ∃ S_X9_carry, SPX9_carry S_X9_carry ∧ ∃ S_X9_setFlag, SPX9_setFlag S_X9_setFlag ∧ ∃ S_X9_flag, SPX9_flag S_X9_flag ∧ ∃ S_X9_zero, SPX9_zero S_X9_zero ∧ mR shM fdX9_shifted [(288, 0, 0, 12, S_X9_carry), (172, 0, 2, 12, S_X9_setFlag), (163, 0, 1, 12, S_X9_flag), (253, 0, 1, 12, S_X9_zero)] bsX9_shifted (fun r f g => mRt (some .int) r ∧ K r f g) X := ⟨spX9_carry, sfX9_carry, spX9_setFlag, sfX9_setFlag, spX9_flag, sfX9_flag, spX9_zero, sfX9_zero, hX⟩
  have b91 : ∀ (a2 : Int32) (a5 : Int32) (s1 : Int32) (s2 : Int32) (f : mFn) (g : mGn), rg 0 31 a2 → rg 0 255 a5 → rg 3 3 s1 → rg 0 1 s2 → rI n e f0 f g → X 91 [(0, .inr 0), (2, .inl a2), (5, .inl a5)] [.inl s2, .inl s1, .inr 0] f g := by
    intro a2 a5 s1 s2 f g ha2 ha5 hs1 hs2 hI
    refine hX.1 9 _ rfl _ _ _ _ ?_
    refine k_X9_setFlag n e f0 _ _ _ _ _ (rg_w (c := 0) (d := 7) hs1 (by decide +kernel)) (rg_w (c := 0) (d := 1) hs2 (by decide +kernel)) hI (fun f23 gf23 hI24 => ?_)
    refine k_X9_zero n e f0 _ _ _ _ (rg_w (c := 0) (d := 255) ha5 (by decide +kernel)) hI24 (fun f26 gf26 hI27 => ?_)
    refine And.intro (rg_in ha2 (by decide +kernel)) ?_
    exact And.intro mRt_i (hK _ _ _ (rg_w (c := 1) (d := 1) (rg_c (a := 1) (b := 1) (by decide +kernel)) (by decide +kernel)) (gI_a1 hI27 2 1280 (lo := 0) (hi := 255) (rg_w (c := 0) (d := 255) ha5 (by decide +kernel)) (by decide +kernel)))
  have b78 : ∀ (a2 : Int32) (a5 : Int32) (s1 : Int32) (s2 : Int32) (f : mFn) (g : mGn), rg 0 31 a2 → rg 0 255 a5 → rg 3 3 s1 → rg 0 1 s2 → rI n e f0 f g → X 78 [(0, .inr 0), (2, .inl a2), (5, .inl a5)] [.inl s2, .inl s1, .inr 0] f g := by
    intro a2 a5 s1 s2 f g ha2 ha5 hs1 hs2 hI
    refine hX.1 7 _ rfl _ _ _ _ ?_
    refine k_X9_flag n e f0 _ _ _ _ (rg_w (c := 0) (d := 7) (rg_c (a := 0) (b := 0) (by decide +kernel)) (by decide +kernel)) hI (fun y29 hy29 => ?_)
    refine And.intro (fun c32 => ?_) (fun c32 => ?_)
    · -- 90
      refine hX.1 8 _ rfl _ _ _ _ ?_
      exact hX.2 _ _ [(0, .inr 0), (2, .inl _), (5, .inl _)] _ _ _ (mWc rfl (mWc rfl (mWc rfl mW0))) (b91 _ _ _ _ _ _ (rg_w (c := 0) (d := 31) ha2 (by decide +kernel)) (rg_w (c := 0) (d := 255) ha5 (by decide +kernel)) (rg_w (c := 3) (d := 3) hs1 (by decide +kernel)) (rg_w (c := 0) (d := 1) (rg_c (a := 0) (b := 0) (by decide +kernel)) (by decide +kernel)) hI)
    · -- on
      exact hX.2 _ _ [(0, .inr 0), (2, .inl _), (5, .inl _)] _ _ _ (mWc rfl (mWc rfl (mWc rfl mW0))) (b91 _ _ _ _ _ _ (rg_w (c := 0) (d := 31) ha2 (by decide +kernel)) (rg_w (c := 0) (d := 255) ha5 (by decide +kernel)) (rg_w (c := 3) (d := 3) hs1 (by decide +kernel)) (rg_w (c := 0) (d := 1) (rg_c (a := 1) (b := 1) (by decide +kernel)) (by decide +kernel)) hI)
  have b60 : ∀ (a2 : Int32) (a5 : Int32) (s1 : Int32) (s2 : Int32) (f : mFn) (g : mGn), rg 0 31 a2 → rg 0 255 a5 → rg 0 0 s1 → rg 0 1 s2 → rI n e f0 f g → X 60 [(0, .inr 0), (2, .inl a2), (5, .inl a5)] [.inl s2, .inl s1, .inr 0] f g := by
    intro a2 a5 s1 s2 f g ha2 ha5 hs1 hs2 hI
    refine hX.1 5 _ rfl _ _ _ _ ?_
    refine k_X9_setFlag n e f0 _ _ _ _ _ (rg_w (c := 0) (d := 7) hs1 (by decide +kernel)) (rg_w (c := 0) (d := 1) hs2 (by decide +kernel)) hI (fun f34 gf34 hI35 => ?_)
    refine And.intro (fun c36 => ?_) (fun c36 => ?_)
    · -- 77
      refine hX.1 6 _ rfl _ _ _ _ ?_
      exact hX.2 _ _ [(0, .inr 0), (2, .inl _), (5, .inl _)] _ _ _ (mWc rfl (mWc rfl (mWc rfl mW0))) (b78 _ _ _ _ _ _ (rg_w (c := 0) (d := 31) ha2 (by decide +kernel)) (rg_w (c := 0) (d := 255) (show rg 0 127 _ from (rg_lt ha5 (rg_c (a := 128) (b := 128) (by decide +kernel)) c36 (by decide +kernel))) (by decide +kernel)) (rg_w (c := 3) (d := 3) (rg_c (a := 3) (b := 3) (by decide +kernel)) (by decide +kernel)) (rg_w (c := 0) (d := 1) (rg_c (a := 0) (b := 0) (by decide +kernel)) (by decide +kernel)) hI35)
    · -- on
      exact hX.2 _ _ [(0, .inr 0), (2, .inl _), (5, .inl _)] _ _ _ (mWc rfl (mWc rfl (mWc rfl mW0))) (b78 _ _ _ _ _ _ (rg_w (c := 0) (d := 31) ha2 (by decide +kernel)) (rg_w (c := 0) (d := 255) (show rg 128 255 _ from (rg_ge ha5 (rg_c (a := 128) (b := 128) (by decide +kernel)) (rg_nlt c36) (by decide +kernel))) (by decide +kernel)) (rg_w (c := 3) (d := 3) (rg_c (a := 3) (b := 3) (by decide +kernel)) (by decide +kernel)) (rg_w (c := 0) (d := 1) (rg_c (a := 1) (b := 1) (by decide +kernel)) (by decide +kernel)) hI35)
  have b36 : ∀ (a2 : Int32) (a3 : Int32) (s0 : Int32) (f : mFn) (g : mGn), rg 0 31 a2 → rg 0 255 a3 → rg 0 128 s0 → rI n e f0 f g → X 36 [(0, .inr 0), (2, .inl a2), (3, .inl a3)] [.inl s0] f g := by
    intro a2 a3 s0 f g ha2 ha3 hs0 hI
    refine hX.1 3 _ rfl _ _ _ _ ?_
    refine And.intro (fun c37 => ?_) (fun c37 => ?_)
    · -- 59
      refine hX.1 4 _ rfl _ _ _ _ ?_
      exact hX.2 _ _ [(0, .inr 0), (2, .inl _), (5, .inl _)] _ _ _ (mWc rfl (mWc rfl (mWc rfl mW0))) (b60 _ _ _ _ _ _ (rg_w (c := 0) (d := 31) ha2 (by decide +kernel)) (rg_w (c := 0) (d := 255) (show rg 0 255 _ from (rg_or (k := 8) (show rg 0 127 _ from (rg_shrK 1 ha3 (by decide +kernel) (by decide +kernel))) hs0 (by decide +kernel))) (by decide +kernel)) (rg_w (c := 0) (d := 0) (rg_c (a := 0) (b := 0) (by decide +kernel)) (by decide +kernel)) (rg_w (c := 0) (d := 1) (rg_c (a := 0) (b := 0) (by decide +kernel)) (by decide +kernel)) hI)
    · -- on
      exact hX.2 _ _ [(0, .inr 0), (2, .inl _), (5, .inl _)] _ _ _ (mWc rfl (mWc rfl (mWc rfl mW0))) (b60 _ _ _ _ _ _ (rg_w (c := 0) (d := 31) ha2 (by decide +kernel)) (rg_w (c := 0) (d := 255) (show rg 0 255 _ from (rg_or (k := 8) (show rg 0 127 _ from (rg_shrK 1 ha3 (by decide +kernel) (by decide +kernel))) hs0 (by decide +kernel))) (by decide +kernel)) (rg_w (c := 0) (d := 0) (rg_c (a := 0) (b := 0) (by decide +kernel)) (by decide +kernel)) (rg_w (c := 0) (d := 1) (rg_c (a := 1) (b := 1) (by decide +kernel)) (by decide +kernel)) hI)
  refine hX.1 0 _ rfl _ _ _ _ ?_
  refine And.intro (fun c38 => ?_) (fun c38 => ?_)
  · -- 16
    refine hX.1 1 _ rfl _ _ _ _ ?_
    refine And.intro (fun c39 => ?_) (fun c39 => ?_)
    · -- 29
      refine hX.1 2 _ rfl _ _ _ _ ?_
      refine k_X9_carry n e f0 _ _ _   hI (fun y40 hy40 => ?_)
      exact hX.2 _ _ [(0, .inr 0), (2, .inl _), (3, .inl _)] _ _ _ (mWc rfl (mWc rfl (mWc rfl mW0))) (b36 _ _ _ _ _ (rg_w (c := 0) (d := 31) hx2 (by decide +kernel)) (rg_w (c := 0) (d := 255) hx3 (by decide +kernel)) (rg_w (c := 0) (d := 128) (show rg 0 128 _ from (rg_shlK 7 hy40 (by decide +kernel) (by decide +kernel))) (by decide +kernel)) hI)
    · -- on
      exact hX.2 _ _ [(0, .inr 0), (2, .inl _), (3, .inl _)] _ _ _ (mWc rfl (mWc rfl (mWc rfl mW0))) (b36 _ _ _ _ _ (rg_w (c := 0) (d := 31) hx2 (by decide +kernel)) (rg_w (c := 0) (d := 255) hx3 (by decide +kernel)) (rg_w (c := 0) (d := 128) (rg_c (a := 0) (b := 0) (by decide +kernel)) (by decide +kernel)) hI)
  · -- on
    exact hX.2 _ _ [(0, .inr 0), (2, .inl _), (3, .inl _)] _ _ _ (mWc rfl (mWc rfl (mWc rfl mW0))) (b36 _ _ _ _ _ (rg_w (c := 0) (d := 31) hx2 (by decide +kernel)) (rg_w (c := 0) (d := 255) hx3 (by decide +kernel)) (rg_w (c := 0) (d := 128) (show rg 0 128 _ from (rg_andR (rg_c (a := 128) (b := 128) (by decide +kernel)) (by decide +kernel))) (by decide +kernel)) hI)
def SPX9_popPlace (S : mSp) : Prop := ∀ (n e : Int) (f0 f : mFn) (g : mGn) (K : mKr), rI n e f0 f g → (∀ (y : Int32) (f' : mFn) (g' : mGn), rg 0 2047 y → rI n e f0 f' g' → K (some (.inl y)) f' g') → S [.inr 0] f g K
set_option maxRecDepth 100000 in
set_option maxHeartbeats 4000000 in
theorem sfX9_popPlace : SPX9_popPlace spX9_popPlace := by
  intro n e f0 f g K   hI hK
  refine ⟨rfl, fun X hX => ?_⟩
  obtain ⟨S_X9_pop, k_X9_pop, hX⟩ : ∃ S_X9_pop, SPX9_pop S_X9_pop ∧ mR shM fdX9_popPlace [(247, 0, 0, 12, S_X9_pop)] bsX9_popPlace (fun r f g => mRt (some .int) r ∧ K r f g) X := ⟨spX9_pop, sfX9_pop, hX⟩
  refine hX.1 0 _ rfl _ _ _ _ ?_
  refine k_X9_pop n e f0 _ _ _  hI (fun y7 f8 gf8 hy7 hI9 => ?_)
  refine k_X9_pop n e f0 _ _ _  hI9 (fun y10 f11 gf11 hy10 hI12 => ?_)
  exact And.intro mRt_i (hK _ _ _ (rg_w (c := 0) (d := 2047) (show rg 0 2047 _ from (rg_andR (rg_c (a := 2047) (b := 2047) (by decide +kernel)) (by decide +kernel))) (by decide +kernel)) hI12)
def SPX9_writes (S : mSp) : Prop := ∀ (n e : Int) (f0 f : mFn) (g : mGn) (K : mKr) (x1 : Int32) (x2 : Int32), rg 0 2016 x1 → rg 0 1 x2 → rI n 0 f0 f g → (∀ (y : Int32) (f' : mFn) (g' : mGn), rg 0 1 y → rI n 8000 f0 f' g' → K (some (.inl y)) f' g') → S [.inr 0, .inl x1, .inl x2] f g K
set_option maxRecDepth 100000 in
set_option maxHeartbeats 4000000 in
theorem sfX9_writes : SPX9_writes spX9_writes := by
  intro n e f0 f g K x1 x2 hx1 hx2 hI hK
  refine ⟨rfl, fun X hX => ?_⟩
  obtain ⟨S_X9_clearBuffer, k_X9_clearBuffer, hX⟩ : ∃ S_X9_clearBuffer, SPX9_clearBuffer S_X9_clearBuffer ∧ mR shM fdX9_writes [(122, 0, 0, 12, S_X9_clearBuffer)] bsX9_writes (fun r f g => mRt (some .boolean) r ∧ K r f g) X := ⟨spX9_clearBuffer, sfX9_clearBuffer, hX⟩
  have b105 : ∀ (a3 : Int32) (f : mFn) (g : mGn), rg 0 1 a3 → rI n 0 f0 f g → X 105 [(0, .inr 0), (3, .inl a3)] [] f g := by
    intro a3 f g ha3 hI
    refine hX.1 10 _ rfl _ _ _ _ ?_
    refine And.intro (fun c17 => ?_) (fun c17 => ?_)
    · -- 123
      refine hX.1 11 _ rfl _ _ _ _ ?_
      refine And.intro (rg_in (rg_c (a := 87) (b := 87) (by decide +kernel)) (by decide +kernel)) ?_
      refine And.intro (rg_in (rg_c (a := 87) (b := 87) (by decide +kernel)) (by decide +kernel)) ?_
      exact And.intro (mRt_z (rg_01 (rg_c (a := 1) (b := 1) (by decide +kernel)) (by decide +kernel))) (hK _ _ _ (rg_w (c := 0) (d := 1) (rg_c (a := 1) (b := 1) (by decide +kernel)) (by decide +kernel)) (rE (rP0 (gI_a1 hI 2 1280 (lo := 0) (hi := 255) (rg_w (c := 0) (d := 255) (show rg 0 255 _ from (rg_or (k := 8) (gI_g hI 2 3 1280 0 255 rfl (rg_in (rg_c (a := 87) (b := 87) (by decide +kernel)) (by decide +kernel))) (rg_c (a := 64) (b := 64) (by decide +kernel)) (by decide +kernel))) (by decide +kernel)) (by decide +kernel)) (by decide +kernel)) (by omega) (by omega)))
    · -- on
      exact And.intro (mRt_z (rg_01 (rg_c (a := 0) (b := 0) (by decide +kernel)) (by decide +kernel))) (hK _ _ _ (rg_w (c := 0) (d := 1) (rg_c (a := 0) (b := 0) (by decide +kernel)) (by decide +kernel)) (rD8 hI))
  have r37 : ∀ (t : Nat), ∀ (a1 : Int32) (a2 : Int32) (a3 : Int32) (a4 : Int32) (f : mFn) (g : mGn), rg 0 2016 a1 → rg 0 1 a2 → rg 0 1 a3 → rg 0 32 a4 → rI n 0 f0 f g → (32 - Int32.toInt a4).toNat < t → X 37 [(0, .inr 0), (1, .inl a1), (2, .inl a2), (3, .inl a3), (4, .inl a4)] [] f g := by
    intro t
    induction t with
    | zero => intro a1 a2 a3 a4 f g ha1 ha2 ha3 ha4 hI hm; exact absurd hm (Nat.not_lt_zero _)
    | succ t ih =>
      have b91 : ∀ (a1 : Int32) (a2 : Int32) (a3 : Int32) (a4 : Int32) (f : mFn) (g : mGn), rg 0 2016 a1 → rg 0 1 a2 → rg 0 1 a3 → rg 0 31 a4 → rI n 0 f0 f g → (32 - Int32.toInt a4).toNat < t + 1 → X 91 [(0, .inr 0), (1, .inl a1), (2, .inl a2), (3, .inl a3), (4, .inl a4)] [] f g := by
        intro a1 a2 a3 a4 f g ha1 ha2 ha3 ha4 hI hm
        refine hX.1 8 _ rfl _ _ _ _ ?_
        exact hX.2 _ _ [(0, .inr 0), (1, .inl _), (2, .inl _), (3, .inl _), (4, .inl _)] _ _ _ (mWc rfl (mWc rfl (mWc rfl (mWc rfl (mWc rfl mW0))))) (ih _ _ _ _ _ _ (rg_w (c := 0) (d := 2016) ha1 (by decide +kernel)) (rg_w (c := 0) (d := 1) ha2 (by decide +kernel)) (rg_w (c := 0) (d := 1) ha3 (by decide +kernel)) (rg_w (c := 0) (d := 32) (show rg 1 32 _ from (rg_add ha4 (rg_c (a := 1) (b := 1) (by decide +kernel)) (by decide +kernel))) (by decide +kernel)) hI (lp_m (N := 32) (rg_w (c := (-2147483648)) (d := 31) ha4 (by decide +kernel)) hm))
      intro a1 a2 a3 a4 f g ha1 ha2 ha3 ha4 hI hm
      refine hX.1 6 _ rfl _ _ _ _ ?_
      refine And.intro (fun c21 => ?_) (fun c21 => ?_)
      · -- 97
        refine hX.1 9 _ rfl _ _ _ _ ?_
        refine And.intro (fun c22 => ?_) (fun c22 => ?_)
        · -- 105
          exact hX.2 _ _ [(0, .inr 0), (3, .inl _)] _ _ _ (mWc rfl (mWc rfl mW0)) (b105 _ _ _ (rg_w (c := 0) (d := 1) ha3 (by decide +kernel)) hI)
        · -- on
          refine k_X9_clearBuffer n 0 f0 _ _ _  hI (fun f24 gf24 hI25 => ?_)
          exact hX.2 _ _ [(0, .inr 0), (3, .inl _)] _ _ _ (mWc rfl (mWc rfl mW0)) (b105 _ _ _ (rg_w (c := 0) (d := 1) ha3 (by decide +kernel)) hI25)
      · -- on
        refine And.intro (fun c26 => ?_) (fun c26 => ?_)
        · -- 62
          refine hX.1 7 _ rfl _ _ _ _ ?_
          refine And.intro (rg_in (show rg 0 31 _ from (rg_lt ha4 (rg_c (a := 32) (b := 32) (by decide +kernel)) (rg_nle c21) (by decide +kernel))) (by decide +kernel)) ?_
          refine And.intro (fun c27 => ?_) (fun c27 => ?_)
          · -- 91
            exact hX.2 _ _ [(0, .inr 0), (1, .inl _), (2, .inl _), (3, .inl _), (4, .inl _)] _ _ _ (mWc rfl (mWc rfl (mWc rfl (mWc rfl (mWc rfl mW0))))) (b91 _ _ _ _ _ _ (rg_w (c := 0) (d := 2016) ha1 (by decide +kernel)) (rg_w (c := 0) (d := 1) (show rg 0 0 _ from (rg_eq (rg_c (a := 0) (b := 0) (by decide +kernel)) c26)) (by decide +kernel)) (rg_w (c := 0) (d := 1) ha3 (by decide +kernel)) (rg_w (c := 0) (d := 31) (show rg 0 31 _ from (rg_lt ha4 (rg_c (a := 32) (b := 32) (by decide +kernel)) (rg_nle c21) (by decide +kernel))) (by decide +kernel)) hI hm)
          · -- on
            refine And.intro (rg_in (show rg 0 2047 _ from (rg_add ha1 (show rg 0 31 _ from (rg_lt ha4 (rg_c (a := 32) (b := 32) (by decide +kernel)) (rg_nle c21) (by decide +kernel))) (by decide +kernel))) (by decide +kernel)) ?_
            refine And.intro (rg_in (show rg 0 31 _ from (rg_lt ha4 (rg_c (a := 32) (b := 32) (by decide +kernel)) (rg_nle c21) (by decide +kernel))) (by decide +kernel)) ?_
            refine And.intro (rg_in (show rg 0 2047 _ from (rg_add ha1 (show rg 0 31 _ from (rg_lt ha4 (rg_c (a := 32) (b := 32) (by decide +kernel)) (rg_nle c21) (by decide +kernel))) (by decide +kernel))) (by decide +kernel)) ?_
            exact hX.2 _ _ [(0, .inr 0), (1, .inl _), (2, .inl _), (3, .inl _), (4, .inl _)] _ _ _ (mWc rfl (mWc rfl (mWc rfl (mWc rfl (mWc rfl mW0))))) (b91 _ _ _ _ _ _ (rg_w (c := 0) (d := 2016) ha1 (by decide +kernel)) (rg_w (c := 0) (d := 1) (show rg 0 0 _ from (rg_eq (rg_c (a := 0) (b := 0) (by decide +kernel)) c26)) (by decide +kernel)) (rg_w (c := 0) (d := 1) ha3 (by decide +kernel)) (rg_w (c := 0) (d := 31) (show rg 0 31 _ from (rg_lt ha4 (rg_c (a := 32) (b := 32) (by decide +kernel)) (rg_nle c21) (by decide +kernel))) (by decide +kernel)) (gI_a1 hI 0 2048 (lo := 0) (hi := 65535) (rg_w (c := 0) (d := 65535) (show rg 0 65535 _ from (rg_andR (gI_g hI 1 2 32 0 65535 rfl (rg_in (show rg 0 31 _ from (rg_lt ha4 (rg_c (a := 32) (b := 32) (by decide +kernel)) (rg_nle c21) (by decide +kernel))) (by decide +kernel))) (by decide +kernel))) (by decide +kernel)) (by decide +kernel)) hm)
        · -- on
          refine And.intro (rg_in (show rg 0 2047 _ from (rg_add ha1 (show rg 0 31 _ from (rg_lt ha4 (rg_c (a := 32) (b := 32) (by decide +kernel)) (rg_nle c21) (by decide +kernel))) (by decide +kernel))) (by decide +kernel)) ?_
          exact hX.2 _ _ [(0, .inr 0), (1, .inl _), (2, .inl _), (3, .inl _), (4, .inl _)] _ _ _ (mWc rfl (mWc rfl (mWc rfl (mWc rfl (mWc rfl mW0))))) (b91 _ _ _ _ _ _ (rg_w (c := 0) (d := 2016) ha1 (by decide +kernel)) (rg_w (c := 0) (d := 1) (show rg 1 1 _ from (rg_neL ha2 (rg_c (a := 0) (b := 0) (by decide +kernel)) c26 (by decide +kernel))) (by decide +kernel)) (rg_w (c := 0) (d := 1) ha3 (by decide +kernel)) (rg_w (c := 0) (d := 31) (show rg 0 31 _ from (rg_lt ha4 (rg_c (a := 32) (b := 32) (by decide +kernel)) (rg_nle c21) (by decide +kernel))) (by decide +kernel)) (gI_a1 hI 0 2048 (lo := 0) (hi := 65535) (rg_w (c := 0) (d := 65535) (rg_c (a := 65535) (b := 65535) (by decide +kernel)) (by decide +kernel)) (by decide +kernel)) hm)
  have b37 : ∀ (a1 : Int32) (a2 : Int32) (a3 : Int32) (a4 : Int32) (f : mFn) (g : mGn), rg 0 2016 a1 → rg 0 1 a2 → rg 0 1 a3 → rg 0 32 a4 → rI n 0 f0 f g → X 37 [(0, .inr 0), (1, .inl a1), (2, .inl a2), (3, .inl a3), (4, .inl a4)] [] f g := by
    intro a1 a2 a3 a4 f g ha1 ha2 ha3 ha4 hI
    exact r37 _ _ _ _ _ _ _ ha1 ha2 ha3 ha4 hI (Nat.lt_succ_self _)
  have b26 : ∀ (a1 : Int32) (a2 : Int32) (a3 : Int32) (s0 : Int32) (s1 : Int32) (f : mFn) (g : mGn), rg 0 2016 a1 → rg 0 1 a2 → rg 0 1 a3 → rg 0 15 s0 → rg 0 2 s1 → rI n 0 f0 f g → X 26 [(0, .inr 0), (1, .inl a1), (2, .inl a2), (3, .inl a3)] [.inl s1, .inl s0] f g := by
    intro a1 a2 a3 s0 s1 f g ha1 ha2 ha3 hs0 hs1 hI
    refine hX.1 4 _ rfl _ _ _ _ ?_
    refine And.intro (fun c30 => ?_) (fun c30 => ?_)
    · -- 34
      refine hX.1 5 _ rfl _ _ _ _ ?_
      exact hX.2 _ _ [(0, .inr 0), (1, .inl _), (2, .inl _), (3, .inl _), (4, .inl _)] _ _ _ (mWc rfl (mWc rfl (mWc rfl (mWc rfl (mWc rfl mW0))))) (b37 _ _ _ _ _ _ (rg_w (c := 0) (d := 2016) ha1 (by decide +kernel)) (rg_w (c := 0) (d := 1) ha2 (by decide +kernel)) (rg_w (c := 0) (d := 1) ha3 (by decide +kernel)) (rg_w (c := 0) (d := 32) (rg_c (a := 0) (b := 0) (by decide +kernel)) (by decide +kernel)) hI)
    · -- on
      exact And.intro (mRt_z (rg_01 (rg_c (a := 0) (b := 0) (by decide +kernel)) (by decide +kernel))) (hK _ _ _ (rg_w (c := 0) (d := 1) (rg_c (a := 0) (b := 0) (by decide +kernel)) (by decide +kernel)) (rE hI (by omega) (by omega)))
  have b12 : ∀ (a1 : Int32) (a2 : Int32) (s0 : Int32) (f : mFn) (g : mGn), rg 0 2016 a1 → rg 0 1 a2 → rg 0 1 s0 → rI n 0 f0 f g → X 12 [(0, .inr 0), (1, .inl a1), (2, .inl a2)] [.inl s0] f g := by
    intro a1 a2 s0 f g ha1 ha2 hs0 hI
    refine hX.1 2 _ rfl _ _ _ _ ?_
    refine And.intro (fun c31 => ?_) (fun c31 => ?_)
    · -- 25
      refine hX.1 3 _ rfl _ _ _ _ ?_
      exact hX.2 _ _ [(0, .inr 0), (1, .inl _), (2, .inl _), (3, .inl _)] _ _ _ (mWc rfl (mWc rfl (mWc rfl (mWc rfl mW0)))) (b26 _ _ _ _ _ _ _ (rg_w (c := 0) (d := 2016) ha1 (by decide +kernel)) (rg_w (c := 0) (d := 1) ha2 (by decide +kernel)) (rg_w (c := 0) (d := 1) (show rg 0 0 _ from (rg_eq (rg_c (a := 0) (b := 0) (by decide +kernel)) c31)) (by decide +kernel)) (rg_w (c := 0) (d := 15) (gI_s hI 1 6 0 15 rfl) (by decide +kernel)) (rg_w (c := 0) (d := 2) (rg_c (a := 0) (b := 0) (by decide +kernel)) (by decide +kernel)) hI)
    · -- on
      exact hX.2 _ _ [(0, .inr 0), (1, .inl _), (2, .inl _), (3, .inl _)] _ _ _ (mWc rfl (mWc rfl (mWc rfl (mWc rfl mW0)))) (b26 _ _ _ _ _ _ _ (rg_w (c := 0) (d := 2016) ha1 (by decide +kernel)) (rg_w (c := 0) (d := 1) ha2 (by decide +kernel)) (rg_w (c := 0) (d := 1) (show rg 1 1 _ from (rg_neL hs0 (rg_c (a := 0) (b := 0) (by decide +kernel)) c31 (by decide +kernel))) (by decide +kernel)) (rg_w (c := 0) (d := 15) (gI_s hI 1 6 0 15 rfl) (by decide +kernel)) (rg_w (c := 0) (d := 2) (rg_c (a := 2) (b := 2) (by decide +kernel)) (by decide +kernel)) hI)
  refine hX.1 0 _ rfl _ _ _ _ ?_
  refine And.intro (fun c32 => ?_) (fun c32 => ?_)
  · -- 11
    refine hX.1 1 _ rfl _ _ _ _ ?_
    exact hX.2 _ _ [(0, .inr 0), (1, .inl _), (2, .inl _)] _ _ _ (mWc rfl (mWc rfl (mWc rfl mW0))) (b12 _ _ _ _ _ (rg_w (c := 0) (d := 2016) (show rg 0 1535 _ from (rg_lt hx1 (rg_c (a := 1536) (b := 1536) (by decide +kernel)) c32 (by decide +kernel))) (by decide +kernel)) (rg_w (c := 0) (d := 1) hx2 (by decide +kernel)) (rg_w (c := 0) (d := 1) (rg_c (a := 0) (b := 0) (by decide +kernel)) (by decide +kernel)) hI)
  · -- on
    exact hX.2 _ _ [(0, .inr 0), (1, .inl _), (2, .inl _)] _ _ _ (mWc rfl (mWc rfl (mWc rfl mW0))) (b12 _ _ _ _ _ (rg_w (c := 0) (d := 2016) (show rg 1536 2016 _ from (rg_ge hx1 (rg_c (a := 1536) (b := 1536) (by decide +kernel)) (rg_nlt c32) (by decide +kernel))) (by decide +kernel)) (rg_w (c := 0) (d := 1) hx2 (by decide +kernel)) (rg_w (c := 0) (d := 1) (rg_c (a := 1) (b := 1) (by decide +kernel)) (by decide +kernel)) hI)
def SPX9_storesFlash (S : mSp) : Prop := ∀ (n e : Int) (f0 f : mFn) (g : mGn) (K : mKr), rI n 0 f0 f g → (∀ (f' : mFn) (g' : mGn), rI n 8000 f0 f' g' → K none f' g') → S [.inr 0] f g K
set_option maxRecDepth 100000 in
set_option maxHeartbeats 4000000 in
theorem sfX9_storesFlash : SPX9_storesFlash spX9_storesFlash := by
  intro n e f0 f g K   hI hK
  refine ⟨rfl, fun X hX => ?_⟩
  obtain ⟨S_X9_pointer, k_X9_pointer, S_X9_writes, k_X9_writes, S_X9_clearBuffer, k_X9_clearBuffer, hX⟩ : ∃ S_X9_pointer, SPX9_pointer S_X9_pointer ∧ ∃ S_X9_writes, SPX9_writes S_X9_writes ∧ ∃ S_X9_clearBuffer, SPX9_clearBuffer S_X9_clearBuffer ∧ mR shM fdX9_storesFlash [(231, 0, 1, 12, S_X9_pointer), (352, 0, 2, 12, S_X9_writes), (122, 0, 0, 12, S_X9_clearBuffer)] bsX9_storesFlash (fun r f g => mRt none r ∧ K r f g) X := ⟨spX9_pointer, sfX9_pointer, spX9_writes, sfX9_writes, spX9_clearBuffer, sfX9_clearBuffer, hX⟩
  have b24 : ∀ (f : mFn) (g : mGn), rI n 0 f0 f g → X 24 [] [] f g := by
    intro f g  hI
    refine hX.1 1 _ rfl _ _ _ _ ?_
    exact And.intro mRt_v (hK _ _ (rE hI (by omega) (by omega)))
  have b183 : ∀ (f : mFn) (g : mGn), rI n 8000 f0 f g → X 183 [(0, .inr 0)] [] f g := by
    intro f g  hI
    refine hX.1 10 _ rfl _ _ _ _ ?_
    refine And.intro (rg_in (rg_c (a := 87) (b := 87) (by decide +kernel)) (by decide +kernel)) ?_
    refine And.intro (rg_in (rg_c (a := 87) (b := 87) (by decide +kernel)) (by decide +kernel)) ?_
    exact And.intro mRt_v (hK _ _ (gI_a1 hI 2 1280 (lo := 0) (hi := 255) (rg_w (c := 0) (d := 255) (show rg 0 224 _ from (rg_andR (rg_c (a := 224) (b := 224) (by decide +kernel)) (by decide +kernel))) (by decide +kernel)) (by decide +kernel)))
  have b83 : ∀ (s1 : Int32) (s2 : Int32) (f : mFn) (g : mGn), rg 0 2016 s1 → rg 0 1 s2 → rI n 0 f0 f g → X 83 [(0, .inr 0)] [.inl s2, .inl s1, .inr 0] f g := by
    intro s1 s2 f g hs1 hs2 hI
    refine hX.1 5 _ rfl _ _ _ _ ?_
    refine k_X9_writes n 0 f0 _ _ _ _ _ (rg_w (c := 0) (d := 2016) hs1 (by decide +kernel)) (rg_w (c := 0) (d := 1) hs2 (by decide +kernel)) hI (fun y31 f32 gf32 hy31 hI33 => ?_)
    refine And.intro (fun c34 => ?_) (fun c34 => ?_)
    · -- 183
      exact hX.2 _ _ [(0, .inr 0)] _ _ _ (mWc rfl mW0) (b183  _ _  hI33)
    · -- on
      exact And.intro mRt_v (hK _ _ hI33)
  have b68 : ∀ (a2 : Int32) (a3 : Int32) (f : mFn) (g : mGn), rg 1 2 a2 → rg 0 63 a3 → rI n 0 f0 f g → X 68 [(0, .inr 0), (2, .inl a2), (3, .inl a3)] [] f g := by
    intro a2 a3 f g ha2 ha3 hI
    refine hX.1 3 _ rfl _ _ _ _ ?_
    refine And.intro (fun c35 => ?_) (fun c35 => ?_)
    · -- 82
      refine hX.1 4 _ rfl _ _ _ _ ?_
      exact hX.2 _ _ [(0, .inr 0)] _ _ _ (mWc rfl mW0) (b83 _ _ _ _ (rg_w (c := 0) (d := 2016) (show rg 0 2016 _ from (rg_mul (rg_c (a := 32) (b := 32) (by decide +kernel)) ha3 (by decide +kernel))) (by decide +kernel)) (rg_w (c := 0) (d := 1) (rg_c (a := 0) (b := 0) (by decide +kernel)) (by decide +kernel)) hI)
    · -- on
      exact hX.2 _ _ [(0, .inr 0)] _ _ _ (mWc rfl mW0) (b83 _ _ _ _ (rg_w (c := 0) (d := 2016) (show rg 0 2016 _ from (rg_mul (rg_c (a := 32) (b := 32) (by decide +kernel)) ha3 (by decide +kernel))) (by decide +kernel)) (rg_w (c := 0) (d := 1) (rg_c (a := 1) (b := 1) (by decide +kernel)) (by decide +kernel)) hI)
  have b124 : ∀ (a4 : Int32) (f : mFn) (g : mGn), rg 0 31 a4 → rI n 0 f0 f g → X 124 [(0, .inr 0), (4, .inl a4)] [] f g := by
    intro a4 f g ha4 hI
    refine hX.1 7 _ rfl _ _ _ _ ?_
    refine And.intro (rg_in ha4 (by decide +kernel)) ?_
    exact hX.2 _ _ [(0, .inr 0)] _ _ _ (mWc rfl mW0) (b183  _ _  (rE (gI_a1 hI 4 32 (lo := 0) (hi := 1) (rg_w (c := 0) (d := 1) (show rg 0 1 _ from (rg_andR (rg_c (a := 1) (b := 1) (by decide +kernel)) (by decide +kernel))) (by decide +kernel)) (by decide +kernel)) (by omega) (by omega)))
  refine hX.1 0 _ rfl _ _ _ _ ?_
  refine And.intro (fun c37 => ?_) (fun c37 => ?_)
  · -- 24
    exact hX.2 _ _ [] _ _ _ mW0 (b24  _ _  hI)
  · -- on
    refine And.intro (fun c38 => ?_) (fun c38 => ?_)
    · -- 24
      exact hX.2 _ _ [] _ _ _ mW0 (b24  _ _  hI)
    · -- on
      refine And.intro (fun c39 => ?_) (fun c39 => ?_)
      · -- 25
        refine hX.1 2 _ rfl _ _ _ _ ?_
        refine k_X9_pointer n 0 f0 _ _ _ _ (rg_w (c := 0) (d := 93) (rg_c (a := 30) (b := 30) (by decide +kernel)) (by decide +kernel)) (rP0 hI (by decide +kernel)) (fun y41 hy41 => ?_)
        refine And.intro (rg_in (rg_c (a := 87) (b := 87) (by decide +kernel)) (by decide +kernel)) ?_
        refine And.intro (fun c44 => ?_) (fun c44 => ?_)
        · -- 68
          exact hX.2 _ _ [(0, .inr 0), (2, .inl _), (3, .inl _)] _ _ _ (mWc rfl (mWc rfl (mWc rfl mW0))) (b68 _ _ _ _ (rg_w (c := 1) (d := 2) (show rg 1 1 _ from (rg_eq (rg_c (a := 1) (b := 1) (by decide +kernel)) c44)) (by decide +kernel)) (rg_w (c := 0) (d := 63) (show rg 0 63 _ from (rg_andR (rg_c (a := 63) (b := 63) (by decide +kernel)) (by decide +kernel))) (by decide +kernel)) (rP0 hI (by decide +kernel)))
        · -- on
          refine And.intro (fun c45 => ?_) (fun c45 => ?_)
          · -- 90
            refine hX.1 6 _ rfl _ _ _ _ ?_
            refine And.intro (fun c46 => ?_) (fun c46 => ?_)
            · -- 135
              refine hX.1 8 _ rfl _ _ _ _ ?_
              refine And.intro (fun c47 => ?_) (fun c47 => ?_)
              · -- 161
                refine hX.1 9 _ rfl _ _ _ _ ?_
                refine And.intro (fun c48 => ?_) (fun c48 => ?_)
                · -- 183
                  exact hX.2 _ _ [(0, .inr 0)] _ _ _ (mWc rfl mW0) (b183  _ _  (rE (rP0 hI (by decide +kernel)) (by omega) (by omega)))
                · -- on
                  refine And.intro (rg_in (rg_c (a := 0) (b := 0) (by decide +kernel)) (by decide +kernel)) ?_
                  exact hX.2 _ _ [(0, .inr 0)] _ _ _ (mWc rfl mW0) (b183  _ _  (rE (rP1 1 (rg_w (c := 0) (d := 15) (show rg 0 15 _ from (rg_andL (gI_s (rP0 hI (by decide +kernel)) 1 6 0 15 rfl) (by decide +kernel))) (by decide +kernel)) (rP0 hI (by decide +kernel)) (by decide +kernel)) (by omega) (by omega)))
              · -- on
                refine And.intro (rg_in (rg_c (a := 87) (b := 87) (by decide +kernel)) (by decide +kernel)) ?_
                refine And.intro (rg_in (rg_c (a := 87) (b := 87) (by decide +kernel)) (by decide +kernel)) ?_
                refine k_X9_clearBuffer n 0 f0 _ _ _  (gI_a1 (rP0 hI (by decide +kernel)) 2 1280 (lo := 0) (hi := 255) (rg_w (c := 0) (d := 255) (show rg 0 191 _ from (rg_andR (rg_c (a := 191) (b := 191) (by decide +kernel)) (by decide +kernel))) (by decide +kernel)) (by decide +kernel)) (fun f52 gf52 hI53 => ?_)
                exact hX.2 _ _ [(0, .inr 0)] _ _ _ (mWc rfl mW0) (b183  _ _  (rE hI53 (by omega) (by omega)))
            · -- on
              refine And.intro (rg_in (show rg 0 31 _ from (rg_andR (rg_c (a := 31) (b := 31) (by decide +kernel)) (by decide +kernel))) (by decide +kernel)) ?_
              refine And.intro (fun c54 => ?_) (fun c54 => ?_)
              · -- 124
                exact hX.2 _ _ [(0, .inr 0), (4, .inl _)] _ _ _ (mWc rfl (mWc rfl mW0)) (b124 _ _ _ (rg_w (c := 0) (d := 31) (show rg 0 31 _ from (rg_andR (rg_c (a := 31) (b := 31) (by decide +kernel)) (by decide +kernel))) (by decide +kernel)) (rP0 hI (by decide +kernel)))
              · -- on
                refine k_X9_pointer n 0 f0 _ _ _ _ (rg_w (c := 0) (d := 93) (rg_c (a := 0) (b := 0) (by decide +kernel)) (by decide +kernel)) (rP0 hI (by decide +kernel)) (fun y55 hy55 => ?_)
                refine And.intro (rg_in (show rg 0 31 _ from (rg_andR (rg_c (a := 31) (b := 31) (by decide +kernel)) (by decide +kernel))) (by decide +kernel)) ?_
                exact hX.2 _ _ [(0, .inr 0), (4, .inl _)] _ _ _ (mWc rfl (mWc rfl mW0)) (b124 _ _ _ (rg_w (c := 0) (d := 31) (show rg 0 31 _ from (rg_andR (rg_c (a := 31) (b := 31) (by decide +kernel)) (by decide +kernel))) (by decide +kernel)) (gI_a1 (rP0 hI (by decide +kernel)) 1 32 (lo := 0) (hi := 65535) (rg_w (c := 0) (d := 65535) hy55 (by decide +kernel)) (by decide +kernel)))
          · -- on
            exact hX.2 _ _ [(0, .inr 0), (2, .inl _), (3, .inl _)] _ _ _ (mWc rfl (mWc rfl (mWc rfl mW0))) (b68 _ _ _ _ (rg_w (c := 1) (d := 2) (show rg 2 2 _ from (rg_eq (rg_c (a := 2) (b := 2) (by decide +kernel)) c45)) (by decide +kernel)) (rg_w (c := 0) (d := 63) (show rg 0 63 _ from (rg_andR (rg_c (a := 63) (b := 63) (by decide +kernel)) (by decide +kernel))) (by decide +kernel)) (rP0 hI (by decide +kernel)))
      · -- on
        exact hX.2 _ _ [] _ _ _ mW0 (b24  _ _  hI)
def SPX9_others (S : mSp) : Prop := ∀ (n e : Int) (f0 f : mFn) (g : mGn) (K : mKr) (x1 : Int32), rg 0 65535 x1 → rI n 0 f0 f g → (∀ (y : Int32) (f' : mFn) (g' : mGn), rg 1 4 y → rI n 8000 f0 f' g' → K (some (.inl y)) f' g') → S [.inr 0, .inl x1] f g K
set_option maxRecDepth 100000 in
set_option maxHeartbeats 4000000 in
theorem sfX9_others : SPX9_others spX9_others := by
  intro n e f0 f g K x1 hx1 hI hK
  refine ⟨rfl, fun X hX => ?_⟩
  obtain ⟨S_X9_setFlag, k_X9_setFlag, S_X9_popPlace, k_X9_popPlace, S_X9_pointer, k_X9_pointer, S_X9_flashByte, k_X9_flashByte, S_X9_storesFlash, k_X9_storesFlash, hX⟩ : ∃ S_X9_setFlag, SPX9_setFlag S_X9_setFlag ∧ ∃ S_X9_popPlace, SPX9_popPlace S_X9_popPlace ∧ ∃ S_X9_pointer, SPX9_pointer S_X9_pointer ∧ ∃ S_X9_flashByte, SPX9_flashByte S_X9_flashByte ∧ ∃ S_X9_storesFlash, SPX9_storesFlash S_X9_storesFlash ∧ mR shM fdX9_others [(172, 0, 2, 12, S_X9_setFlag), (346, 0, 0, 12, S_X9_popPlace), (231, 0, 1, 12, S_X9_pointer), (327, 0, 1, 12, S_X9_flashByte), (349, 0, 0, 12, S_X9_storesFlash)] bsX9_others (fun r f g => mRt (some .int) r ∧ K r f g) X := ⟨spX9_setFlag, sfX9_setFlag, spX9_popPlace, sfX9_popPlace, spX9_pointer, sfX9_pointer, spX9_flashByte, sfX9_flashByte, spX9_storesFlash, sfX9_storesFlash, hX⟩
  have b43 : ∀ (s1 : Int32) (f : mFn) (g : mGn), rg 0 1 s1 → rI n 0 f0 f g → X 43 [] [.inl s1, .inr 0] f g := by
    intro s1 f g hs1 hI
    refine hX.1 4 _ rfl _ _ _ _ ?_
    refine And.intro (rg_01 hs1 (by decide +kernel)) ?_
    exact And.intro mRt_i (hK _ _ _ (rg_w (c := 1) (d := 4) (rg_c (a := 1) (b := 1) (by decide +kernel)) (by decide +kernel)) (rE (rP0 hI (by decide +kernel)) (by omega) (by omega)))
  have b27 : ∀ (a1 : Int32) (s1 : Int32) (s2 : Int32) (f : mFn) (g : mGn), rg 0 38143 a1 → rg 0 7 s1 → rg 0 1 s2 → rI n 0 f0 f g → X 27 [(0, .inr 0), (1, .inl a1)] [.inl s2, .inl s1, .inr 0] f g := by
    intro a1 s1 s2 f g ha1 hs1 hs2 hI
    refine hX.1 2 _ rfl _ _ _ _ ?_
    refine k_X9_setFlag n 0 f0 _ _ _ _ _ (rg_w (c := 0) (d := 7) hs1 (by decide +kernel)) (rg_w (c := 0) (d := 1) hs2 (by decide +kernel)) hI (fun f49 gf49 hI50 => ?_)
    refine And.intro (fun c51 => ?_) (fun c51 => ?_)
    · -- 42
      refine hX.1 3 _ rfl _ _ _ _ ?_
      exact hX.2 _ _ [] _ _ _ mW0 (b43 _ _ _ (rg_w (c := 0) (d := 1) (rg_c (a := 0) (b := 0) (by decide +kernel)) (by decide +kernel)) hI50)
    · -- on
      exact hX.2 _ _ [] _ _ _ mW0 (b43 _ _ _ (rg_w (c := 0) (d := 1) (rg_c (a := 1) (b := 1) (by decide +kernel)) (by decide +kernel)) hI50)
  have b198 : ∀ (f : mFn) (g : mGn), rI n 0 f0 f g → X 198 [] [] f g := by
    intro f g  hI
    refine hX.1 12 _ rfl _ _ _ _ ?_
    exact And.intro mRt_i (hK _ _ _ (rg_w (c := 1) (d := 4) (rg_c (a := 1) (b := 1) (by decide +kernel)) (by decide +kernel)) (rE hI (by omega) (by omega)))
  refine hX.1 0 _ rfl _ _ _ _ ?_
  refine And.intro (fun c52 => ?_) (fun c52 => ?_)
  · -- 48
    refine hX.1 5 _ rfl _ _ _ _ ?_
    refine And.intro (fun c53 => ?_) (fun c53 => ?_)
    · -- 128
      refine hX.1 6 _ rfl _ _ _ _ ?_
      refine k_X9_popPlace n 0 f0 _ _ _  hI (fun y54 f55 gf55 hy54 hI56 => ?_)
      exact And.intro mRt_i (hK _ _ _ (rg_w (c := 1) (d := 4) (rg_c (a := 4) (b := 4) (by decide +kernel)) (by decide +kernel)) (rE (rP1 5 (rg_w (c := 0) (d := 2047) hy54 (by decide +kernel)) hI56 (by decide +kernel)) (by omega) (by omega)))
    · -- on
      refine And.intro (fun c58 => ?_) (fun c58 => ?_)
      · -- 138
        refine hX.1 7 _ rfl _ _ _ _ ?_
        refine k_X9_popPlace n 0 f0 _ _ _  hI (fun y59 f60 gf60 hy59 hI61 => ?_)
        refine k_X9_setFlag n 0 f0 _ _ _ _ _ (rg_w (c := 0) (d := 7) (rg_c (a := 7) (b := 7) (by decide +kernel)) (by decide +kernel)) (rg_w (c := 0) (d := 1) (rg_c (a := 1) (b := 1) (by decide +kernel)) (by decide +kernel)) (rP1 5 (rg_w (c := 0) (d := 2047) hy59 (by decide +kernel)) hI61 (by decide +kernel)) (fun f64 gf64 hI65 => ?_)
        refine And.intro (rg_01 (rg_c (a := 1) (b := 1) (by decide +kernel)) (by decide +kernel)) ?_
        exact And.intro mRt_i (hK _ _ _ (rg_w (c := 1) (d := 4) (rg_c (a := 4) (b := 4) (by decide +kernel)) (by decide +kernel)) (rE (rP0 hI65 (by decide +kernel)) (by omega) (by omega)))
      · -- on
        refine And.intro (fun c67 => ?_) (fun c67 => ?_)
        · -- 198
          exact hX.2 _ _ [] _ _ _ mW0 (b198  _ _  hI)
        · -- on
          refine And.intro (fun c68 => ?_) (fun c68 => ?_)
          · -- 198
            exact hX.2 _ _ [] _ _ _ mW0 (b198  _ _  hI)
          · -- on
            refine And.intro (fun c69 => ?_) (fun c69 => ?_)
            · -- 198
              exact hX.2 _ _ [] _ _ _ mW0 (b198  _ _  hI)
            · -- on
              refine And.intro (fun c70 => ?_) (fun c70 => ?_)
              · -- 198
                exact hX.2 _ _ [] _ _ _ mW0 (b198  _ _  hI)
              · -- on
                refine And.intro (fun c71 => ?_) (fun c71 => ?_)
                · -- 198
                  exact hX.2 _ _ [] _ _ _ mW0 (b198  _ _  hI)
                · -- on
                  refine And.intro (fun c72 => ?_) (fun c72 => ?_)
                  · -- 198
                    exact hX.2 _ _ [] _ _ _ mW0 (b198  _ _  hI)
                  · -- on
                    refine And.intro (fun c73 => ?_) (fun c73 => ?_)
                    · -- 160
                      refine hX.1 8 _ rfl _ _ _ _ ?_
                      refine And.intro (rg_01 (rg_c (a := 1) (b := 1) (by decide +kernel)) (by decide +kernel)) ?_
                      exact And.intro mRt_i (hK _ _ _ (rg_w (c := 1) (d := 4) (rg_c (a := 1) (b := 1) (by decide +kernel)) (by decide +kernel)) (rE (rP0 hI (by decide +kernel)) (by omega) (by omega)))
                    · -- on
                      refine And.intro (fun c75 => ?_) (fun c75 => ?_)
                      · -- 198
                        exact hX.2 _ _ [] _ _ _ mW0 (b198  _ _  hI)
                      · -- on
                        refine And.intro (fun c76 => ?_) (fun c76 => ?_)
                        · -- 167
                          refine hX.1 9 _ rfl _ _ _ _ ?_
                          exact And.intro mRt_i (hK _ _ _ (rg_w (c := 1) (d := 4) (rg_c (a := 1) (b := 1) (by decide +kernel)) (by decide +kernel)) (rE (rP0 hI (by decide +kernel)) (by omega) (by omega)))
                        · -- on
                          refine And.intro (fun c78 => ?_) (fun c78 => ?_)
                          · -- 198
                            exact hX.2 _ _ [] _ _ _ mW0 (b198  _ _  hI)
                          · -- on
                            refine And.intro (fun c79 => ?_) (fun c79 => ?_)
                            · -- 174
                              refine hX.1 10 _ rfl _ _ _ _ ?_
                              refine k_X9_pointer n 0 f0 _ _ _ _ (rg_w (c := 0) (d := 93) (rg_c (a := 30) (b := 30) (by decide +kernel)) (by decide +kernel)) hI (fun y80 hy80 => ?_)
                              refine k_X9_flashByte n 0 f0 _ _ _ _ (rg_w (c := 0) (d := 65535) hy80 (by decide +kernel)) hI (fun y83 f84 gf84 hy83 hI85 => ?_)
                              refine And.intro (rg_in (rg_c (a := 0) (b := 0) (by decide +kernel)) (by decide +kernel)) ?_
                              exact And.intro mRt_i (hK _ _ _ (rg_w (c := 1) (d := 4) (rg_c (a := 3) (b := 3) (by decide +kernel)) (by decide +kernel)) (rE (gI_a1 hI85 2 1280 (lo := 0) (hi := 255) (rg_w (c := 0) (d := 255) hy83 (by decide +kernel)) (by decide +kernel)) (by omega) (by omega)))
                            · -- on
                              refine And.intro (fun c87 => ?_) (fun c87 => ?_)
                              · -- 198
                                exact hX.2 _ _ [] _ _ _ mW0 (b198  _ _  hI)
                              · -- on
                                refine And.intro (fun c88 => ?_) (fun c88 => ?_)
                                · -- 192
                                  refine hX.1 11 _ rfl _ _ _ _ ?_
                                  refine k_X9_storesFlash n 0 f0 _ _ _  hI (fun f90 gf90 hI91 => ?_)
                                  exact And.intro mRt_i (hK _ _ _ (rg_w (c := 1) (d := 4) (rg_c (a := 1) (b := 1) (by decide +kernel)) (by decide +kernel)) hI91)
                                · -- on
                                  exact hX.2 _ _ [] _ _ _ mW0 (b198  _ _  hI)
  · -- on
    refine And.intro (fun c92 => ?_) (fun c92 => ?_)
    · -- 26
      refine hX.1 1 _ rfl _ _ _ _ ?_
      exact hX.2 _ _ [(0, .inr 0), (1, .inl _)] _ _ _ (mWc rfl (mWc rfl mW0)) (b27 _ _ _ _ _ (rg_w (c := 0) (d := 38143) (show rg 0 38143 _ from (rg_lt hx1 (rg_c (a := 38144) (b := 38144) (by decide +kernel)) (rg_nle c52) (by decide +kernel))) (by decide +kernel)) (rg_w (c := 0) (d := 7) (show rg 0 7 _ from (rg_andR (rg_c (a := 7) (b := 7) (by decide +kernel)) (by decide +kernel))) (by decide +kernel)) (rg_w (c := 0) (d := 1) (rg_c (a := 0) (b := 0) (by decide +kernel)) (by decide +kernel)) hI)
    · -- on
      exact hX.2 _ _ [(0, .inr 0), (1, .inl _)] _ _ _ (mWc rfl (mWc rfl mW0)) (b27 _ _ _ _ _ (rg_w (c := 0) (d := 38143) (show rg 0 38143 _ from (rg_lt hx1 (rg_c (a := 38144) (b := 38144) (by decide +kernel)) (rg_nle c52) (by decide +kernel))) (by decide +kernel)) (rg_w (c := 0) (d := 7) (show rg 0 7 _ from (rg_andR (rg_c (a := 7) (b := 7) (by decide +kernel)) (by decide +kernel))) (by decide +kernel)) (rg_w (c := 0) (d := 1) (rg_c (a := 1) (b := 1) (by decide +kernel)) (by decide +kernel)) hI)
def SPX9_through (S : mSp) : Prop := ∀ (n e : Int) (f0 f : mFn) (g : mGn) (K : mKr) (x1 : Int32), rg 0 65535 x1 → n + 2 ≤ 300000000 → rI n e f0 f g → (∀ (y : Int32) (f' : mFn) (g' : mGn), rg 1 3 y → rI (n + 2) e f0 f' g' → K (some (.inl y)) f' g') → S [.inr 0, .inl x1] f g K
set_option maxRecDepth 100000 in
set_option maxHeartbeats 4000000 in
theorem sfX9_through : SPX9_through spX9_through := by
  intro n e f0 f g K x1 hx1 hB hI hK
  refine ⟨rfl, fun X hX => ?_⟩
  obtain ⟨S_X9_pointer, k_X9_pointer, S_X9_pushPlace, k_X9_pushPlace, hX⟩ : ∃ S_X9_pointer, SPX9_pointer S_X9_pointer ∧ ∃ S_X9_pushPlace, SPX9_pushPlace S_X9_pushPlace ∧ mR shM fdX9_through [(231, 0, 1, 12, S_X9_pointer), (169, 0, 1, 12, S_X9_pushPlace)] bsX9_through (fun r f g => mRt (some .int) r ∧ K r f g) X := ⟨spX9_pointer, sfX9_pointer, spX9_pushPlace, sfX9_pushPlace, hX⟩
  refine hX.1 0 _ rfl _ _ _ _ ?_
  refine And.intro (fun c14 => ?_) (fun c14 => ?_)
  · -- 23
    refine hX.1 1 _ rfl _ _ _ _ ?_
    refine And.intro (fun c15 => ?_) (fun c15 => ?_)
    · -- 32
      refine hX.1 2 _ rfl _ _ _ _ ?_
      refine k_X9_pushPlace n e f0 _ _ _ _ (rg_w (c := 0) (d := 2047) (gI_s hI 5 12 0 2047 rfl) (by decide +kernel)) (by omega) hI (fun f17 gf17 hI18 => ?_)
      refine k_X9_pointer (n + 2) e f0 _ _ _ _ (rg_w (c := 0) (d := 93) (rg_c (a := 30) (b := 30) (by decide +kernel)) (by decide +kernel)) hI18 (fun y19 hy19 => ?_)
      exact And.intro mRt_i (hK _ _ _ (rg_w (c := 1) (d := 3) (rg_c (a := 3) (b := 3) (by decide +kernel)) (by decide +kernel)) (rP1 5 (rg_w (c := 0) (d := 2047) (show rg 0 2047 _ from (rg_andR (rg_c (a := 2047) (b := 2047) (by decide +kernel)) (by decide +kernel))) (by decide +kernel)) hI18 (by decide +kernel)))
    · -- on
      exact And.intro mRt_i (hK _ _ _ (rg_w (c := 1) (d := 3) (rg_c (a := 1) (b := 1) (by decide +kernel)) (by decide +kernel)) (rM hI (by omega) (by omega)))
  · -- on
    refine k_X9_pointer n e f0 _ _ _ _ (rg_w (c := 0) (d := 93) (rg_c (a := 30) (b := 30) (by decide +kernel)) (by decide +kernel)) hI (fun y23 hy23 => ?_)
    exact And.intro mRt_i (hK _ _ _ (rg_w (c := 1) (d := 3) (rg_c (a := 2) (b := 2) (by decide +kernel)) (by decide +kernel)) (rM (rP1 5 (rg_w (c := 0) (d := 2047) (show rg 0 2047 _ from (rg_andR (rg_c (a := 2047) (b := 2047) (by decide +kernel)) (by decide +kernel))) (by decide +kernel)) hI (by decide +kernel)) (by omega) (by omega)))
def SPX9_single (S : mSp) : Prop := ∀ (n e : Int) (f0 f : mFn) (g : mGn) (K : mKr) (x1 : Int32), rg 0 65535 x1 → n + 2 ≤ 300000000 → rI n 0 f0 f g → (∀ (y : Int32) (f' : mFn) (g' : mGn), rg 1 4 y → rI (n + 2) 8000 f0 f' g' → K (some (.inl y)) f' g') → S [.inr 0, .inl x1] f g K
set_option maxRecDepth 100000 in
set_option maxHeartbeats 4000000 in
theorem sfX9_single : SPX9_single spX9_single := by
  intro n e f0 f g K x1 hx1 hB hI hK
  refine ⟨rfl, fun X hX => ?_⟩
  obtain ⟨S_X9_logic, k_X9_logic, S_X9_setFlag, k_X9_setFlag, S_X9_subtract, k_X9_subtract, S_X9_zero, k_X9_zero, S_X9_shifted, k_X9_shifted, S_X9_others, k_X9_others, S_X9_through, k_X9_through, S_X9_next, k_X9_next, S_X9_pushPlace, k_X9_pushPlace, hX⟩ : ∃ S_X9_logic, SPX9_logic S_X9_logic ∧ ∃ S_X9_setFlag, SPX9_setFlag S_X9_setFlag ∧ ∃ S_X9_subtract, SPX9_subtract S_X9_subtract ∧ ∃ S_X9_zero, SPX9_zero S_X9_zero ∧ ∃ S_X9_shifted, SPX9_shifted S_X9_shifted ∧ ∃ S_X9_others, SPX9_others S_X9_others ∧ ∃ S_X9_through, SPX9_through S_X9_through ∧ ∃ S_X9_next, SPX9_next S_X9_next ∧ ∃ S_X9_pushPlace, SPX9_pushPlace S_X9_pushPlace ∧ mR shM fdX9_single [(302, 0, 1, 12, S_X9_logic), (172, 0, 2, 12, S_X9_setFlag), (291, 0, 4, 12, S_X9_subtract), (253, 0, 1, 12, S_X9_zero), (333, 0, 3, 12, S_X9_shifted), (336, 0, 1, 12, S_X9_others), (339, 0, 1, 12, S_X9_through), (259, 0, 0, 12, S_X9_next), (169, 0, 1, 12, S_X9_pushPlace)] bsX9_single (fun r f g => mRt (some .int) r ∧ K r f g) X := ⟨spX9_logic, sfX9_logic, spX9_setFlag, sfX9_setFlag, spX9_subtract, sfX9_subtract, spX9_zero, sfX9_zero, spX9_shifted, sfX9_shifted, spX9_others, sfX9_others, spX9_through, sfX9_through, spX9_next, sfX9_next, spX9_pushPlace, sfX9_pushPlace, hX⟩
  have b202 : ∀ (a2 : Int32) (a3 : Int32) (s1 : Int32) (s2 : Int32) (f : mFn) (g : mGn), rg 0 31 a2 → rg 0 255 a3 → rg 3 3 s1 → rg 0 1 s2 → rI n 0 f0 f g → X 202 [(0, .inr 0), (2, .inl a2), (3, .inl a3)] [.inl s2, .inl s1, .inr 0] f g := by
    intro a2 a3 s1 s2 f g ha2 ha3 hs1 hs2 hI
    refine hX.1 10 _ rfl _ _ _ _ ?_
    refine k_X9_setFlag n 0 f0 _ _ _ _ _ (rg_w (c := 0) (d := 7) hs1 (by decide +kernel)) (rg_w (c := 0) (d := 1) hs2 (by decide +kernel)) hI (fun f60 gf60 hI61 => ?_)
    refine k_X9_zero n 0 f0 _ _ _ _ (rg_w (c := 0) (d := 255) ha3 (by decide +kernel)) hI61 (fun f63 gf63 hI64 => ?_)
    refine And.intro (rg_in ha2 (by decide +kernel)) ?_
    exact And.intro mRt_i (hK _ _ _ (rg_w (c := 1) (d := 4) (rg_c (a := 1) (b := 1) (by decide +kernel)) (by decide +kernel)) (rE (rM (gI_a1 hI64 2 1280 (lo := 0) (hi := 255) (rg_w (c := 0) (d := 255) ha3 (by decide +kernel)) (by decide +kernel)) (by omega) (by omega)) (by omega) (by omega)))
  have b194 : ∀ (a2 : Int32) (a3 : Int32) (s1 : Int32) (s2 : Int32) (s3 : Int32) (f : mFn) (g : mGn), rg 0 31 a2 → rg 0 255 a3 → rg 3 3 s1 → rg 0 255 s2 → rg 127 128 s3 → rI n 0 f0 f g → X 194 [(0, .inr 0), (2, .inl a2), (3, .inl a3)] [.inl s3, .inl s2, .inl s1, .inr 0] f g := by
    intro a2 a3 s1 s2 s3 f g ha2 ha3 hs1 hs2 hs3 hI
    refine hX.1 8 _ rfl _ _ _ _ ?_
    refine And.intro (fun c66 => ?_) (fun c66 => ?_)
    · -- 201
      refine hX.1 9 _ rfl _ _ _ _ ?_
      exact hX.2 _ _ [(0, .inr 0), (2, .inl _), (3, .inl _)] _ _ _ (mWc rfl (mWc rfl (mWc rfl mW0))) (b202 _ _ _ _ _ _ (rg_w (c := 0) (d := 31) ha2 (by decide +kernel)) (rg_w (c := 0) (d := 255) ha3 (by decide +kernel)) (rg_w (c := 3) (d := 3) hs1 (by decide +kernel)) (rg_w (c := 0) (d := 1) (rg_c (a := 0) (b := 0) (by decide +kernel)) (by decide +kernel)) hI)
    · -- on
      exact hX.2 _ _ [(0, .inr 0), (2, .inl _), (3, .inl _)] _ _ _ (mWc rfl (mWc rfl (mWc rfl mW0))) (b202 _ _ _ _ _ _ (rg_w (c := 0) (d := 31) ha2 (by decide +kernel)) (rg_w (c := 0) (d := 255) ha3 (by decide +kernel)) (rg_w (c := 3) (d := 3) hs1 (by decide +kernel)) (rg_w (c := 0) (d := 1) (rg_c (a := 1) (b := 1) (by decide +kernel)) (by decide +kernel)) hI)
  have b169 : ∀ (a1 : Int32) (a2 : Int32) (s0 : Int32) (s1 : Int32) (f : mFn) (g : mGn), rg 0 65535 a1 → rg 0 31 a2 → rg 0 255 s0 → rg 1 255 s1 → rI n 0 f0 f g → X 169 [(0, .inr 0), (1, .inl a1), (2, .inl a2)] [.inl s1, .inl s0] f g := by
    intro a1 a2 s0 s1 f g ha1 ha2 hs0 hs1 hI
    refine hX.1 6 _ rfl _ _ _ _ ?_
    refine And.intro (fun c67 => ?_) (fun c67 => ?_)
    · -- 192
      refine hX.1 7 _ rfl _ _ _ _ ?_
      exact hX.2 _ _ [(0, .inr 0), (2, .inl _), (3, .inl _)] _ _ _ (mWc rfl (mWc rfl (mWc rfl mW0))) (b194 _ _ _ _ _ _ _ (rg_w (c := 0) (d := 31) ha2 (by decide +kernel)) (rg_w (c := 0) (d := 255) (show rg 0 255 _ from (rg_andR (rg_c (a := 255) (b := 255) (by decide +kernel)) (by decide +kernel))) (by decide +kernel)) (rg_w (c := 3) (d := 3) (rg_c (a := 3) (b := 3) (by decide +kernel)) (by decide +kernel)) (rg_w (c := 0) (d := 255) (show rg 0 255 _ from (rg_andR (rg_c (a := 255) (b := 255) (by decide +kernel)) (by decide +kernel))) (by decide +kernel)) (rg_w (c := 127) (d := 128) (rg_c (a := 127) (b := 127) (by decide +kernel)) (by decide +kernel)) hI)
    · -- on
      exact hX.2 _ _ [(0, .inr 0), (2, .inl _), (3, .inl _)] _ _ _ (mWc rfl (mWc rfl (mWc rfl mW0))) (b194 _ _ _ _ _ _ _ (rg_w (c := 0) (d := 31) ha2 (by decide +kernel)) (rg_w (c := 0) (d := 255) (show rg 0 255 _ from (rg_andR (rg_c (a := 255) (b := 255) (by decide +kernel)) (by decide +kernel))) (by decide +kernel)) (rg_w (c := 3) (d := 3) (rg_c (a := 3) (b := 3) (by decide +kernel)) (by decide +kernel)) (rg_w (c := 0) (d := 255) (show rg 0 255 _ from (rg_andR (rg_c (a := 255) (b := 255) (by decide +kernel)) (by decide +kernel))) (by decide +kernel)) (rg_w (c := 127) (d := 128) (rg_c (a := 128) (b := 128) (by decide +kernel)) (by decide +kernel)) hI)
  have b153 : ∀ (a1 : Int32) (a2 : Int32) (a3 : Int32) (f : mFn) (g : mGn), rg 0 65535 a1 → rg 0 31 a2 → rg 0 255 a3 → rI n 0 f0 f g → X 153 [(0, .inr 0), (1, .inl a1), (2, .inl a2), (3, .inl a3)] [] f g := by
    intro a1 a2 a3 f g ha1 ha2 ha3 hI
    refine hX.1 4 _ rfl _ _ _ _ ?_
    refine And.intro (fun c68 => ?_) (fun c68 => ?_)
    · -- 166
      refine hX.1 5 _ rfl _ _ _ _ ?_
      exact hX.2 _ _ [(0, .inr 0), (1, .inl _), (2, .inl _)] _ _ _ (mWc rfl (mWc rfl (mWc rfl mW0))) (b169 _ _ _ _ _ _ (rg_w (c := 0) (d := 65535) ha1 (by decide +kernel)) (rg_w (c := 0) (d := 31) ha2 (by decide +kernel)) (rg_w (c := 0) (d := 255) ha3 (by decide +kernel)) (rg_w (c := 1) (d := 255) (rg_c (a := 255) (b := 255) (by decide +kernel)) (by decide +kernel)) hI)
    · -- on
      exact hX.2 _ _ [(0, .inr 0), (1, .inl _), (2, .inl _)] _ _ _ (mWc rfl (mWc rfl (mWc rfl mW0))) (b169 _ _ _ _ _ _ (rg_w (c := 0) (d := 65535) ha1 (by decide +kernel)) (rg_w (c := 0) (d := 31) ha2 (by decide +kernel)) (rg_w (c := 0) (d := 255) ha3 (by decide +kernel)) (rg_w (c := 1) (d := 255) (rg_c (a := 1) (b := 1) (by decide +kernel)) (by decide +kernel)) hI)
  have b219 : ∀ (a1 : Int32) (a2 : Int32) (a3 : Int32) (f : mFn) (g : mGn), rg 0 65535 a1 → rg 0 31 a2 → rg 0 255 a3 → rI n 0 f0 f g → X 219 [(0, .inr 0), (1, .inl a1), (2, .inl a2), (3, .inl a3)] [] f g := by
    intro a1 a2 a3 f g ha1 ha2 ha3 hI
    refine hX.1 11 _ rfl _ _ _ _ ?_
    refine k_X9_shifted n 0 f0 _ _ _ _ _ _ (rg_w (c := 0) (d := 65535) ha1 (by decide +kernel)) (rg_w (c := 0) (d := 31) ha2 (by decide +kernel)) (rg_w (c := 0) (d := 255) ha3 (by decide +kernel)) hI (fun y69 f70 gf70 hy69 hI71 => ?_)
    exact And.intro mRt_i (hK _ _ _ (rg_w (c := 1) (d := 4) hy69 (by decide +kernel)) (rE (rM hI71 (by omega) (by omega)) (by omega) (by omega)))
  have b239 : ∀ (f : mFn) (g : mGn), rI n 0 f0 f g → X 239 [(0, .inr 0)] [] f g := by
    intro f g  hI
    refine hX.1 14 _ rfl _ _ _ _ ?_
    refine k_X9_next n 0 f0 _ _ _  hI (fun y72 f73 gf73 hy72 hI74 => ?_)
    exact And.intro mRt_i (hK _ _ _ (rg_w (c := 1) (d := 4) (rg_c (a := 3) (b := 3) (by decide +kernel)) (by decide +kernel)) (rE (rM (rP1 5 (rg_w (c := 0) (d := 2047) (show rg 0 2047 _ from (rg_andR (rg_c (a := 2047) (b := 2047) (by decide +kernel)) (by decide +kernel))) (by decide +kernel)) hI74 (by decide +kernel)) (by omega) (by omega)) (by omega) (by omega)))
  have b253 : ∀ (f : mFn) (g : mGn), rI n 0 f0 f g → X 253 [(0, .inr 0)] [] f g := by
    intro f g  hI
    refine hX.1 15 _ rfl _ _ _ _ ?_
    refine k_X9_next n 0 f0 _ _ _  hI (fun y76 f77 gf77 hy76 hI78 => ?_)
    refine k_X9_pushPlace n 0 f0 _ _ _ _ (rg_w (c := 0) (d := 2047) (gI_s hI78 5 12 0 2047 rfl) (by decide +kernel)) (by omega) hI78 (fun f80 gf80 hI81 => ?_)
    exact And.intro mRt_i (hK _ _ _ (rg_w (c := 1) (d := 4) (rg_c (a := 4) (b := 4) (by decide +kernel)) (by decide +kernel)) (rE (rP1 5 (rg_w (c := 0) (d := 2047) (show rg 0 2047 _ from (rg_andR (rg_c (a := 2047) (b := 2047) (by decide +kernel)) (by decide +kernel))) (by decide +kernel)) hI81 (by decide +kernel)) (by omega) (by omega)))
  have b279 : ∀ (f : mFn) (g : mGn), rI n 0 f0 f g → X 279 [] [] f g := by
    intro f g  hI
    refine hX.1 16 _ rfl _ _ _ _ ?_
    exact And.intro mRt_i (hK _ _ _ (rg_w (c := 1) (d := 4) (rg_c (a := 1) (b := 1) (by decide +kernel)) (by decide +kernel)) (rE (rM hI (by omega) (by omega)) (by omega) (by omega)))
  refine hX.1 0 _ rfl _ _ _ _ ?_
  refine And.intro (rg_in (show rg 0 31 _ from (rg_andR (rg_c (a := 31) (b := 31) (by decide +kernel)) (by decide +kernel))) (by decide +kernel)) ?_
  refine And.intro (fun c83 => ?_) (fun c83 => ?_)
  · -- 96
    refine hX.1 1 _ rfl _ _ _ _ ?_
    refine k_X9_logic n 0 f0 _ _ _ _ (rg_w (c := 0) (d := 255) (show rg 0 255 _ from (rg_sub (rg_c (a := 255) (b := 255) (by decide +kernel)) (gI_g hI 2 3 1280 0 255 rfl (rg_in (show rg 0 31 _ from (rg_andR (rg_c (a := 31) (b := 31) (by decide +kernel)) (by decide +kernel))) (by decide +kernel))) (by decide +kernel))) (by decide +kernel)) hI (fun y84 f85 gf85 hy84 hI86 => ?_)
    refine And.intro (rg_in (show rg 0 31 _ from (rg_andR (rg_c (a := 31) (b := 31) (by decide +kernel)) (by decide +kernel))) (by decide +kernel)) ?_
    refine k_X9_setFlag n 0 f0 _ _ _ _ _ (rg_w (c := 0) (d := 7) (rg_c (a := 0) (b := 0) (by decide +kernel)) (by decide +kernel)) (rg_w (c := 0) (d := 1) (rg_c (a := 1) (b := 1) (by decide +kernel)) (by decide +kernel)) (gI_a1 hI86 2 1280 (lo := 0) (hi := 255) (rg_w (c := 0) (d := 255) hy84 (by decide +kernel)) (by decide +kernel)) (fun f89 gf89 hI90 => ?_)
    exact And.intro mRt_i (hK _ _ _ (rg_w (c := 1) (d := 4) (rg_c (a := 1) (b := 1) (by decide +kernel)) (by decide +kernel)) (rE (rM hI90 (by omega) (by omega)) (by omega) (by omega)))
  · -- on
    refine And.intro (fun c91 => ?_) (fun c91 => ?_)
    · -- 119
      refine hX.1 2 _ rfl _ _ _ _ ?_
      refine k_X9_subtract n 0 f0 _ _ _ _ _ _ _ (rg_w (c := 0) (d := 255) (rg_c (a := 0) (b := 0) (by decide +kernel)) (by decide +kernel)) (rg_w (c := 0) (d := 255) (gI_g hI 2 3 1280 0 255 rfl (rg_in (show rg 0 31 _ from (rg_andR (rg_c (a := 31) (b := 31) (by decide +kernel)) (by decide +kernel))) (by decide +kernel))) (by decide +kernel)) (rg_w (c := 0) (d := 1) (rg_c (a := 0) (b := 0) (by decide +kernel)) (by decide +kernel)) (rg_w (c := 0) (d := 1) (rg_c (a := 0) (b := 0) (by decide +kernel)) (by decide +kernel)) hI (fun y92 f93 gf93 hy92 hI94 => ?_)
      refine And.intro (rg_in (show rg 0 31 _ from (rg_andR (rg_c (a := 31) (b := 31) (by decide +kernel)) (by decide +kernel))) (by decide +kernel)) ?_
      exact And.intro mRt_i (hK _ _ _ (rg_w (c := 1) (d := 4) (rg_c (a := 1) (b := 1) (by decide +kernel)) (by decide +kernel)) (rE (rM (gI_a1 hI94 2 1280 (lo := 0) (hi := 255) (rg_w (c := 0) (d := 255) hy92 (by decide +kernel)) (by decide +kernel)) (by omega) (by omega)) (by omega) (by omega)))
    · -- on
      refine And.intro (fun c96 => ?_) (fun c96 => ?_)
      · -- 135
        refine hX.1 3 _ rfl _ _ _ _ ?_
        refine And.intro (rg_in (show rg 0 31 _ from (rg_andR (rg_c (a := 31) (b := 31) (by decide +kernel)) (by decide +kernel))) (by decide +kernel)) ?_
        exact And.intro mRt_i (hK _ _ _ (rg_w (c := 1) (d := 4) (rg_c (a := 1) (b := 1) (by decide +kernel)) (by decide +kernel)) (rE (rM (gI_a1 hI 2 1280 (lo := 0) (hi := 255) (rg_w (c := 0) (d := 255) (show rg 0 255 _ from (rg_or (k := 8) (show rg 0 15 _ from (rg_shrK 4 (gI_g hI 2 3 1280 0 255 rfl (rg_in (show rg 0 31 _ from (rg_andR (rg_c (a := 31) (b := 31) (by decide +kernel)) (by decide +kernel))) (by decide +kernel))) (by decide +kernel) (by decide +kernel))) (show rg 0 240 _ from (rg_shlK 4 (show rg 0 15 _ from (rg_andR (rg_c (a := 15) (b := 15) (by decide +kernel)) (by decide +kernel))) (by decide +kernel) (by decide +kernel))) (by decide +kernel))) (by decide +kernel)) (by decide +kernel)) (by omega) (by omega)) (by omega) (by omega)))
      · -- on
        refine And.intro (fun c98 => ?_) (fun c98 => ?_)
        · -- 153
          exact hX.2 _ _ [(0, .inr 0), (1, .inl _), (2, .inl _), (3, .inl _)] _ _ _ (mWc rfl (mWc rfl (mWc rfl (mWc rfl mW0)))) (b153 _ _ _ _ _ (rg_w (c := 0) (d := 65535) hx1 (by decide +kernel)) (rg_w (c := 0) (d := 31) (show rg 0 31 _ from (rg_andR (rg_c (a := 31) (b := 31) (by decide +kernel)) (by decide +kernel))) (by decide +kernel)) (rg_w (c := 0) (d := 255) (gI_g hI 2 3 1280 0 255 rfl (rg_in (show rg 0 31 _ from (rg_andR (rg_c (a := 31) (b := 31) (by decide +kernel)) (by decide +kernel))) (by decide +kernel))) (by decide +kernel)) hI)
        · -- on
          refine And.intro (fun c99 => ?_) (fun c99 => ?_)
          · -- 279
            exact hX.2 _ _ [] _ _ _ mW0 (b279  _ _  hI)
          · -- on
            refine And.intro (fun c100 => ?_) (fun c100 => ?_)
            · -- 219
              exact hX.2 _ _ [(0, .inr 0), (1, .inl _), (2, .inl _), (3, .inl _)] _ _ _ (mWc rfl (mWc rfl (mWc rfl (mWc rfl mW0)))) (b219 _ _ _ _ _ (rg_w (c := 0) (d := 65535) hx1 (by decide +kernel)) (rg_w (c := 0) (d := 31) (show rg 0 31 _ from (rg_andR (rg_c (a := 31) (b := 31) (by decide +kernel)) (by decide +kernel))) (by decide +kernel)) (rg_w (c := 0) (d := 255) (gI_g hI 2 3 1280 0 255 rfl (rg_in (show rg 0 31 _ from (rg_andR (rg_c (a := 31) (b := 31) (by decide +kernel)) (by decide +kernel))) (by decide +kernel))) (by decide +kernel)) hI)
            · -- on
              refine And.intro (fun c101 => ?_) (fun c101 => ?_)
              · -- 219
                exact hX.2 _ _ [(0, .inr 0), (1, .inl _), (2, .inl _), (3, .inl _)] _ _ _ (mWc rfl (mWc rfl (mWc rfl (mWc rfl mW0)))) (b219 _ _ _ _ _ (rg_w (c := 0) (d := 65535) hx1 (by decide +kernel)) (rg_w (c := 0) (d := 31) (show rg 0 31 _ from (rg_andR (rg_c (a := 31) (b := 31) (by decide +kernel)) (by decide +kernel))) (by decide +kernel)) (rg_w (c := 0) (d := 255) (gI_g hI 2 3 1280 0 255 rfl (rg_in (show rg 0 31 _ from (rg_andR (rg_c (a := 31) (b := 31) (by decide +kernel)) (by decide +kernel))) (by decide +kernel))) (by decide +kernel)) hI)
              · -- on
                refine And.intro (fun c102 => ?_) (fun c102 => ?_)
                · -- 219
                  exact hX.2 _ _ [(0, .inr 0), (1, .inl _), (2, .inl _), (3, .inl _)] _ _ _ (mWc rfl (mWc rfl (mWc rfl (mWc rfl mW0)))) (b219 _ _ _ _ _ (rg_w (c := 0) (d := 65535) hx1 (by decide +kernel)) (rg_w (c := 0) (d := 31) (show rg 0 31 _ from (rg_andR (rg_c (a := 31) (b := 31) (by decide +kernel)) (by decide +kernel))) (by decide +kernel)) (rg_w (c := 0) (d := 255) (gI_g hI 2 3 1280 0 255 rfl (rg_in (show rg 0 31 _ from (rg_andR (rg_c (a := 31) (b := 31) (by decide +kernel)) (by decide +kernel))) (by decide +kernel))) (by decide +kernel)) hI)
                · -- on
                  refine And.intro (fun c103 => ?_) (fun c103 => ?_)
                  · -- 227
                    refine hX.1 12 _ rfl _ _ _ _ ?_
                    refine k_X9_others n 0 f0 _ _ _ _ (rg_w (c := 0) (d := 65535) hx1 (by decide +kernel)) hI (fun y104 f105 gf105 hy104 hI106 => ?_)
                    exact And.intro mRt_i (hK _ _ _ (rg_w (c := 1) (d := 4) hy104 (by decide +kernel)) (rM hI106 (by omega) (by omega)))
                  · -- on
                    refine And.intro (fun c107 => ?_) (fun c107 => ?_)
                    · -- 233
                      refine hX.1 13 _ rfl _ _ _ _ ?_
                      refine k_X9_through n 0 f0 _ _ _ _ (rg_w (c := 0) (d := 65535) hx1 (by decide +kernel)) (by omega) hI (fun y108 f109 gf109 hy108 hI110 => ?_)
                      exact And.intro mRt_i (hK _ _ _ (rg_w (c := 1) (d := 4) hy108 (by decide +kernel)) (rE hI110 (by omega) (by omega)))
                    · -- on
                      refine And.intro (fun c111 => ?_) (fun c111 => ?_)
                      · -- 153
                        exact hX.2 _ _ [(0, .inr 0), (1, .inl _), (2, .inl _), (3, .inl _)] _ _ _ (mWc rfl (mWc rfl (mWc rfl (mWc rfl mW0)))) (b153 _ _ _ _ _ (rg_w (c := 0) (d := 65535) hx1 (by decide +kernel)) (rg_w (c := 0) (d := 31) (show rg 0 31 _ from (rg_andR (rg_c (a := 31) (b := 31) (by decide +kernel)) (by decide +kernel))) (by decide +kernel)) (rg_w (c := 0) (d := 255) (gI_g hI 2 3 1280 0 255 rfl (rg_in (show rg 0 31 _ from (rg_andR (rg_c (a := 31) (b := 31) (by decide +kernel)) (by decide +kernel))) (by decide +kernel))) (by decide +kernel)) hI)
                      · -- on
                        refine And.intro (fun c112 => ?_) (fun c112 => ?_)
                        · -- 279
                          exact hX.2 _ _ [] _ _ _ mW0 (b279  _ _  hI)
                        · -- on
                          refine And.intro (fun c113 => ?_) (fun c113 => ?_)
                          · -- 239
                            exact hX.2 _ _ [(0, .inr 0)] _ _ _ (mWc rfl mW0) (b239  _ _  hI)
                          · -- on
                            refine And.intro (fun c114 => ?_) (fun c114 => ?_)
                            · -- 239
                              exact hX.2 _ _ [(0, .inr 0)] _ _ _ (mWc rfl mW0) (b239  _ _  hI)
                            · -- on
                              refine And.intro (fun c115 => ?_) (fun c115 => ?_)
                              · -- 253
                                exact hX.2 _ _ [(0, .inr 0)] _ _ _ (mWc rfl mW0) (b253  _ _  hI)
                              · -- on
                                refine And.intro (fun c116 => ?_) (fun c116 => ?_)
                                · -- 253
                                  exact hX.2 _ _ [(0, .inr 0)] _ _ _ (mWc rfl mW0) (b253  _ _  hI)
                                · -- on
                                  exact (rg_no (show rg 1 0 _ from (rg_neN (show rg 15 15 _ from (rg_neL (show rg 14 15 _ from (rg_neL (show rg 13 15 _ from (rg_neL (show rg 12 15 _ from (rg_neL (show rg 11 15 _ from (rg_neL (show rg 10 15 _ from (rg_neL (show rg 9 15 _ from (rg_neL (show rg 8 15 _ from (rg_neL (show rg 7 15 _ from (rg_neL (show rg 6 15 _ from (rg_neL (show rg 5 15 _ from (rg_neL (show rg 4 15 _ from (rg_neL (show rg 3 15 _ from (rg_neL (show rg 2 15 _ from (rg_neL (show rg 1 15 _ from (rg_neL (show rg 0 15 _ from (rg_andR (rg_c (a := 15) (b := 15) (by decide +kernel)) (by decide +kernel))) (rg_c (a := 0) (b := 0) (by decide +kernel)) c83 (by decide +kernel))) (rg_c (a := 1) (b := 1) (by decide +kernel)) c91 (by decide +kernel))) (rg_c (a := 2) (b := 2) (by decide +kernel)) c96 (by decide +kernel))) (rg_c (a := 3) (b := 3) (by decide +kernel)) c98 (by decide +kernel))) (rg_c (a := 4) (b := 4) (by decide +kernel)) c99 (by decide +kernel))) (rg_c (a := 5) (b := 5) (by decide +kernel)) c100 (by decide +kernel))) (rg_c (a := 6) (b := 6) (by decide +kernel)) c101 (by decide +kernel))) (rg_c (a := 7) (b := 7) (by decide +kernel)) c102 (by decide +kernel))) (rg_c (a := 8) (b := 8) (by decide +kernel)) c103 (by decide +kernel))) (rg_c (a := 9) (b := 9) (by decide +kernel)) c107 (by decide +kernel))) (rg_c (a := 10) (b := 10) (by decide +kernel)) c111 (by decide +kernel))) (rg_c (a := 11) (b := 11) (by decide +kernel)) c112 (by decide +kernel))) (rg_c (a := 12) (b := 12) (by decide +kernel)) c113 (by decide +kernel))) (rg_c (a := 13) (b := 13) (by decide +kernel)) c114 (by decide +kernel))) (rg_c (a := 14) (b := 14) (by decide +kernel)) c115 (by decide +kernel))) (rg_c (a := 15) (b := 15) (by decide +kernel)) c116 (by decide +kernel))) (by decide +kernel)).elim
def SPX9_pairs (S : mSp) : Prop := ∀ (n e : Int) (f0 f : mFn) (g : mGn) (K : mKr) (x1 : Int32), rg 0 65535 x1 → rI n e f0 f g → (∀ (y : Int32) (f' : mFn) (g' : mGn), rg 2 2 y → rI n e f0 f' g' → K (some (.inl y)) f' g') → S [.inr 0, .inl x1] f g K
set_option maxRecDepth 100000 in
set_option maxHeartbeats 4000000 in
theorem sfX9_pairs : SPX9_pairs spX9_pairs := by
  intro n e f0 f g K x1 hx1 hI hK
  refine ⟨rfl, fun X hX => ?_⟩
  obtain ⟨S_X9_pointer, k_X9_pointer, S_X9_setPointer, k_X9_setPointer, S_X9_setFlag, k_X9_setFlag, S_X9_flag, k_X9_flag, hX⟩ : ∃ S_X9_pointer, SPX9_pointer S_X9_pointer ∧ ∃ S_X9_setPointer, SPX9_setPointer S_X9_setPointer ∧ ∃ S_X9_setFlag, SPX9_setFlag S_X9_setFlag ∧ ∃ S_X9_flag, SPX9_flag S_X9_flag ∧ mR shM fdX9_pairs [(231, 0, 1, 12, S_X9_pointer), (238, 0, 2, 12, S_X9_setPointer), (172, 0, 2, 12, S_X9_setFlag), (163, 0, 1, 12, S_X9_flag)] bsX9_pairs (fun r f g => mRt (some .int) r ∧ K r f g) X := ⟨spX9_pointer, sfX9_pointer, spX9_setPointer, sfX9_setPointer, spX9_setFlag, sfX9_setFlag, spX9_flag, sfX9_flag, hX⟩
  have b218 : ∀ (s1 : Int32) (s2 : Int32) (f : mFn) (g : mGn), rg 4 4 s1 → rg 0 1 s2 → rI n e f0 f g → X 218 [] [.inl s2, .inl s1, .inr 0] f g := by
    intro s1 s2 f g hs1 hs2 hI
    refine hX.1 18 _ rfl _ _ _ _ ?_
    refine k_X9_setFlag n e f0 _ _ _ _ _ (rg_w (c := 0) (d := 7) hs1 (by decide +kernel)) (rg_w (c := 0) (d := 1) hs2 (by decide +kernel)) hI (fun f42 gf42 hI43 => ?_)
    exact And.intro mRt_i (hK _ _ _ (rg_w (c := 2) (d := 2) (rg_c (a := 2) (b := 2) (by decide +kernel)) (by decide +kernel)) hI43)
  have b195 : ∀ (s1 : Int32) (s2 : Int32) (f : mFn) (g : mGn), rg 1 1 s1 → rg 0 1 s2 → rI n e f0 f g → X 195 [(0, .inr 0)] [.inl s2, .inl s1, .inr 0] f g := by
    intro s1 s2 f g hs1 hs2 hI
    refine hX.1 16 _ rfl _ _ _ _ ?_
    refine k_X9_setFlag n e f0 _ _ _ _ _ (rg_w (c := 0) (d := 7) hs1 (by decide +kernel)) (rg_w (c := 0) (d := 1) hs2 (by decide +kernel)) hI (fun f45 gf45 hI46 => ?_)
    refine k_X9_flag n e f0 _ _ _ _ (rg_w (c := 0) (d := 7) (rg_c (a := 2) (b := 2) (by decide +kernel)) (by decide +kernel)) hI46 (fun y47 hy47 => ?_)
    refine k_X9_flag n e f0 _ _ _ _ (rg_w (c := 0) (d := 7) (rg_c (a := 3) (b := 3) (by decide +kernel)) (by decide +kernel)) hI46 (fun y50 hy50 => ?_)
    refine And.intro (fun c53 => ?_) (fun c53 => ?_)
    · -- 217
      refine hX.1 17 _ rfl _ _ _ _ ?_
      exact hX.2 _ _ [] _ _ _ mW0 (b218 _ _ _ _ (rg_w (c := 4) (d := 4) (rg_c (a := 4) (b := 4) (by decide +kernel)) (by decide +kernel)) (rg_w (c := 0) (d := 1) (rg_c (a := 0) (b := 0) (by decide +kernel)) (by decide +kernel)) hI46)
    · -- on
      exact hX.2 _ _ [] _ _ _ mW0 (b218 _ _ _ _ (rg_w (c := 4) (d := 4) (rg_c (a := 4) (b := 4) (by decide +kernel)) (by decide +kernel)) (rg_w (c := 0) (d := 1) (rg_c (a := 1) (b := 1) (by decide +kernel)) (by decide +kernel)) hI46)
  have b180 : ∀ (a6 : Int32) (s1 : Int32) (s2 : Int32) (f : mFn) (g : mGn), rg 0 65535 a6 → rg 2 2 s1 → rg 0 1 s2 → rI n e f0 f g → X 180 [(0, .inr 0), (6, .inl a6)] [.inl s2, .inl s1, .inr 0] f g := by
    intro a6 s1 s2 f g ha6 hs1 hs2 hI
    refine hX.1 14 _ rfl _ _ _ _ ?_
    refine k_X9_setFlag n e f0 _ _ _ _ _ (rg_w (c := 0) (d := 7) hs1 (by decide +kernel)) (rg_w (c := 0) (d := 1) hs2 (by decide +kernel)) hI (fun f55 gf55 hI56 => ?_)
    refine And.intro (fun c57 => ?_) (fun c57 => ?_)
    · -- 194
      refine hX.1 15 _ rfl _ _ _ _ ?_
      exact hX.2 _ _ [(0, .inr 0)] _ _ _ (mWc rfl mW0) (b195 _ _ _ _ (rg_w (c := 1) (d := 1) (rg_c (a := 1) (b := 1) (by decide +kernel)) (by decide +kernel)) (rg_w (c := 0) (d := 1) (rg_c (a := 0) (b := 0) (by decide +kernel)) (by decide +kernel)) hI56)
    · -- on
      exact hX.2 _ _ [(0, .inr 0)] _ _ _ (mWc rfl mW0) (b195 _ _ _ _ (rg_w (c := 1) (d := 1) (rg_c (a := 1) (b := 1) (by decide +kernel)) (by decide +kernel)) (rg_w (c := 0) (d := 1) (rg_c (a := 1) (b := 1) (by decide +kernel)) (by decide +kernel)) hI56)
  have b162 : ∀ (a6 : Int32) (s1 : Int32) (s2 : Int32) (f : mFn) (g : mGn), rg 0 65535 a6 → rg 3 3 s1 → rg 0 1 s2 → rI n e f0 f g → X 162 [(0, .inr 0), (6, .inl a6)] [.inl s2, .inl s1, .inr 0] f g := by
    intro a6 s1 s2 f g ha6 hs1 hs2 hI
    refine hX.1 12 _ rfl _ _ _ _ ?_
    refine k_X9_setFlag n e f0 _ _ _ _ _ (rg_w (c := 0) (d := 7) hs1 (by decide +kernel)) (rg_w (c := 0) (d := 1) hs2 (by decide +kernel)) hI (fun f59 gf59 hI60 => ?_)
    refine And.intro (fun c61 => ?_) (fun c61 => ?_)
    · -- 179
      refine hX.1 13 _ rfl _ _ _ _ ?_
      exact hX.2 _ _ [(0, .inr 0), (6, .inl _)] _ _ _ (mWc rfl (mWc rfl mW0)) (b180 _ _ _ _ _ (rg_w (c := 0) (d := 65535) (show rg 0 32767 _ from (rg_lt ha6 (rg_c (a := 32768) (b := 32768) (by decide +kernel)) c61 (by decide +kernel))) (by decide +kernel)) (rg_w (c := 2) (d := 2) (rg_c (a := 2) (b := 2) (by decide +kernel)) (by decide +kernel)) (rg_w (c := 0) (d := 1) (rg_c (a := 0) (b := 0) (by decide +kernel)) (by decide +kernel)) hI60)
    · -- on
      exact hX.2 _ _ [(0, .inr 0), (6, .inl _)] _ _ _ (mWc rfl (mWc rfl mW0)) (b180 _ _ _ _ _ (rg_w (c := 0) (d := 65535) (show rg 32768 65535 _ from (rg_ge ha6 (rg_c (a := 32768) (b := 32768) (by decide +kernel)) (rg_nlt c61) (by decide +kernel))) (by decide +kernel)) (rg_w (c := 2) (d := 2) (rg_c (a := 2) (b := 2) (by decide +kernel)) (by decide +kernel)) (rg_w (c := 0) (d := 1) (rg_c (a := 1) (b := 1) (by decide +kernel)) (by decide +kernel)) hI60)
  have b137 : ∀ (a6 : Int32) (s1 : Int32) (f : mFn) (g : mGn), rg 0 65535 a6 → rg 3 3 s1 → rI n e f0 f g → X 137 [(0, .inr 0), (6, .inl a6)] [.inl s1, .inr 0] f g := by
    intro a6 s1 f g ha6 hs1 hI
    refine hX.1 9 _ rfl _ _ _ _ ?_
    exact hX.2 _ _ [(0, .inr 0), (6, .inl _)] _ _ _ (mWc rfl (mWc rfl mW0)) (b162 _ _ _ _ _ (rg_w (c := 0) (d := 65535) ha6 (by decide +kernel)) (rg_w (c := 3) (d := 3) hs1 (by decide +kernel)) (rg_w (c := 0) (d := 1) (rg_c (a := 0) (b := 0) (by decide +kernel)) (by decide +kernel)) hI)
  have b161 : ∀ (a6 : Int32) (s1 : Int32) (f : mFn) (g : mGn), rg 0 65535 a6 → rg 3 3 s1 → rI n e f0 f g → X 161 [(0, .inr 0), (6, .inl a6)] [.inl s1, .inr 0] f g := by
    intro a6 s1 f g ha6 hs1 hI
    refine hX.1 11 _ rfl _ _ _ _ ?_
    exact hX.2 _ _ [(0, .inr 0), (6, .inl _)] _ _ _ (mWc rfl (mWc rfl mW0)) (b162 _ _ _ _ _ (rg_w (c := 0) (d := 65535) ha6 (by decide +kernel)) (rg_w (c := 3) (d := 3) hs1 (by decide +kernel)) (rg_w (c := 0) (d := 1) (rg_c (a := 0) (b := 0) (by decide +kernel)) (by decide +kernel)) hI)
  have b107 : ∀ (a4 : Int32) (a5 : Int32) (a6 : Int32) (s1 : Int32) (s2 : Int32) (f : mFn) (g : mGn), rg 0 65535 a4 → rg 0 1 a5 → rg 0 65535 a6 → rg 0 0 s1 → rg 0 1 s2 → rI n e f0 f g → X 107 [(0, .inr 0), (4, .inl a4), (5, .inl a5), (6, .inl a6)] [.inl s2, .inl s1, .inr 0] f g := by
    intro a4 a5 a6 s1 s2 f g ha4 ha5 ha6 hs1 hs2 hI
    refine hX.1 8 _ rfl _ _ _ _ ?_
    refine k_X9_setFlag n e f0 _ _ _ _ _ (rg_w (c := 0) (d := 7) hs1 (by decide +kernel)) (rg_w (c := 0) (d := 1) hs2 (by decide +kernel)) hI (fun f63 gf63 hI64 => ?_)
    refine And.intro (fun c65 => ?_) (fun c65 => ?_)
    · -- 141
      refine hX.1 10 _ rfl _ _ _ _ ?_
      refine And.intro (fun c66 => ?_) (fun c66 => ?_)
      · -- 161
        exact hX.2 _ _ [(0, .inr 0), (6, .inl _)] _ _ _ (mWc rfl (mWc rfl mW0)) (b161 _ _ _ _ (rg_w (c := 0) (d := 65535) ha6 (by decide +kernel)) (rg_w (c := 3) (d := 3) (rg_c (a := 3) (b := 3) (by decide +kernel)) (by decide +kernel)) hI64)
      · -- on
        refine And.intro (fun c67 => ?_) (fun c67 => ?_)
        · -- 161
          exact hX.2 _ _ [(0, .inr 0), (6, .inl _)] _ _ _ (mWc rfl (mWc rfl mW0)) (b161 _ _ _ _ (rg_w (c := 0) (d := 65535) (show rg 32768 65535 _ from (rg_ge ha6 (rg_c (a := 32768) (b := 32768) (by decide +kernel)) c67 (by decide +kernel))) (by decide +kernel)) (rg_w (c := 3) (d := 3) (rg_c (a := 3) (b := 3) (by decide +kernel)) (by decide +kernel)) hI64)
        · -- on
          exact hX.2 _ _ [(0, .inr 0), (6, .inl _)] _ _ _ (mWc rfl (mWc rfl mW0)) (b162 _ _ _ _ _ (rg_w (c := 0) (d := 65535) (show rg 0 32767 _ from (rg_lt ha6 (rg_c (a := 32768) (b := 32768) (by decide +kernel)) (rg_nle c67) (by decide +kernel))) (by decide +kernel)) (rg_w (c := 3) (d := 3) (rg_c (a := 3) (b := 3) (by decide +kernel)) (by decide +kernel)) (rg_w (c := 0) (d := 1) (rg_c (a := 1) (b := 1) (by decide +kernel)) (by decide +kernel)) hI64)
    · -- on
      refine And.intro (fun c68 => ?_) (fun c68 => ?_)
      · -- 137
        exact hX.2 _ _ [(0, .inr 0), (6, .inl _)] _ _ _ (mWc rfl (mWc rfl mW0)) (b137 _ _ _ _ (rg_w (c := 0) (d := 65535) ha6 (by decide +kernel)) (rg_w (c := 3) (d := 3) (rg_c (a := 3) (b := 3) (by decide +kernel)) (by decide +kernel)) hI64)
      · -- on
        refine And.intro (fun c69 => ?_) (fun c69 => ?_)
        · -- 137
          exact hX.2 _ _ [(0, .inr 0), (6, .inl _)] _ _ _ (mWc rfl (mWc rfl mW0)) (b137 _ _ _ _ (rg_w (c := 0) (d := 65535) (show rg 0 32767 _ from (rg_lt ha6 (rg_c (a := 32768) (b := 32768) (by decide +kernel)) c69 (by decide +kernel))) (by decide +kernel)) (rg_w (c := 3) (d := 3) (rg_c (a := 3) (b := 3) (by decide +kernel)) (by decide +kernel)) hI64)
        · -- on
          exact hX.2 _ _ [(0, .inr 0), (6, .inl _)] _ _ _ (mWc rfl (mWc rfl mW0)) (b162 _ _ _ _ _ (rg_w (c := 0) (d := 65535) (show rg 32768 65535 _ from (rg_ge ha6 (rg_c (a := 32768) (b := 32768) (by decide +kernel)) (rg_nlt c69) (by decide +kernel))) (by decide +kernel)) (rg_w (c := 3) (d := 3) (rg_c (a := 3) (b := 3) (by decide +kernel)) (by decide +kernel)) (rg_w (c := 0) (d := 1) (rg_c (a := 1) (b := 1) (by decide +kernel)) (by decide +kernel)) hI64)
  have b60 : ∀ (a2 : Int32) (a3 : Int32) (a4 : Int32) (a5 : Int32) (s0 : Int32) (f : mFn) (g : mGn), rg 24 30 a2 → rg 0 63 a3 → rg 0 65535 a4 → rg 0 1 a5 → rg (-63) 65598 s0 → rI n e f0 f g → X 60 [(0, .inr 0), (2, .inl a2), (3, .inl a3), (4, .inl a4), (5, .inl a5)] [.inl s0] f g := by
    intro a2 a3 a4 a5 s0 f g ha2 ha3 ha4 ha5 hs0 hI
    refine hX.1 4 _ rfl _ _ _ _ ?_
    refine k_X9_setPointer n e f0 _ _ _ _ _ (rg_w (c := 0) (d := 93) ha2 (by decide +kernel)) (rg_w (c := (-1)) (d := 65536) (show rg 0 65535 _ from (rg_andR (rg_c (a := 65535) (b := 65535) (by decide +kernel)) (by decide +kernel))) (by decide +kernel)) hI (fun f71 gf71 hI72 => ?_)
    refine And.intro (fun c73 => ?_) (fun c73 => ?_)
    · -- 96
      refine hX.1 6 _ rfl _ _ _ _ ?_
      refine And.intro (fun c74 => ?_) (fun c74 => ?_)
      · -- 106
        refine hX.1 7 _ rfl _ _ _ _ ?_
        exact hX.2 _ _ [(0, .inr 0), (4, .inl _), (5, .inl _), (6, .inl _)] _ _ _ (mWc rfl (mWc rfl (mWc rfl (mWc rfl mW0)))) (b107 _ _ _ _ _ _ _ (rg_w (c := 0) (d := 65535) ha4 (by decide +kernel)) (rg_w (c := 0) (d := 1) (show rg 0 0 _ from (rg_eq (rg_c (a := 0) (b := 0) (by decide +kernel)) c73)) (by decide +kernel)) (rg_w (c := 0) (d := 65535) (show rg 0 65535 _ from (rg_andR (rg_c (a := 65535) (b := 65535) (by decide +kernel)) (by decide +kernel))) (by decide +kernel)) (rg_w (c := 0) (d := 0) (rg_c (a := 0) (b := 0) (by decide +kernel)) (by decide +kernel)) (rg_w (c := 0) (d := 1) (rg_c (a := 0) (b := 0) (by decide +kernel)) (by decide +kernel)) hI72)
      · -- on
        exact hX.2 _ _ [(0, .inr 0), (4, .inl _), (5, .inl _), (6, .inl _)] _ _ _ (mWc rfl (mWc rfl (mWc rfl (mWc rfl mW0)))) (b107 _ _ _ _ _ _ _ (rg_w (c := 0) (d := 65535) (show rg 0 62 _ from (rg_lt ha4 ha3 (rg_nle c74) (by decide +kernel))) (by decide +kernel)) (rg_w (c := 0) (d := 1) (show rg 0 0 _ from (rg_eq (rg_c (a := 0) (b := 0) (by decide +kernel)) c73)) (by decide +kernel)) (rg_w (c := 0) (d := 65535) (show rg 0 65535 _ from (rg_andR (rg_c (a := 65535) (b := 65535) (by decide +kernel)) (by decide +kernel))) (by decide +kernel)) (rg_w (c := 0) (d := 0) (rg_c (a := 0) (b := 0) (by decide +kernel)) (by decide +kernel)) (rg_w (c := 0) (d := 1) (rg_c (a := 1) (b := 1) (by decide +kernel)) (by decide +kernel)) hI72)
    · -- on
      refine And.intro (fun c75 => ?_) (fun c75 => ?_)
      · -- 92
        refine hX.1 5 _ rfl _ _ _ _ ?_
        exact hX.2 _ _ [(0, .inr 0), (4, .inl _), (5, .inl _), (6, .inl _)] _ _ _ (mWc rfl (mWc rfl (mWc rfl (mWc rfl mW0)))) (b107 _ _ _ _ _ _ _ (rg_w (c := 0) (d := 65535) ha4 (by decide +kernel)) (rg_w (c := 0) (d := 1) (show rg 1 1 _ from (rg_neL ha5 (rg_c (a := 0) (b := 0) (by decide +kernel)) c73 (by decide +kernel))) (by decide +kernel)) (rg_w (c := 0) (d := 65535) (show rg 0 65535 _ from (rg_andR (rg_c (a := 65535) (b := 65535) (by decide +kernel)) (by decide +kernel))) (by decide +kernel)) (rg_w (c := 0) (d := 0) (rg_c (a := 0) (b := 0) (by decide +kernel)) (by decide +kernel)) (rg_w (c := 0) (d := 1) (rg_c (a := 0) (b := 0) (by decide +kernel)) (by decide +kernel)) hI72)
      · -- on
        exact hX.2 _ _ [(0, .inr 0), (4, .inl _), (5, .inl _), (6, .inl _)] _ _ _ (mWc rfl (mWc rfl (mWc rfl (mWc rfl mW0)))) (b107 _ _ _ _ _ _ _ (rg_w (c := 0) (d := 65535) ha4 (by decide +kernel)) (rg_w (c := 0) (d := 1) (show rg 1 1 _ from (rg_neL ha5 (rg_c (a := 0) (b := 0) (by decide +kernel)) c73 (by decide +kernel))) (by decide +kernel)) (rg_w (c := 0) (d := 65535) (show rg 0 65535 _ from (rg_andR (rg_c (a := 65535) (b := 65535) (by decide +kernel)) (by decide +kernel))) (by decide +kernel)) (rg_w (c := 0) (d := 0) (rg_c (a := 0) (b := 0) (by decide +kernel)) (by decide +kernel)) (rg_w (c := 0) (d := 1) (rg_c (a := 1) (b := 1) (by decide +kernel)) (by decide +kernel)) hI72)
  have b42 : ∀ (a2 : Int32) (a3 : Int32) (a4 : Int32) (s0 : Int32) (f : mFn) (g : mGn), rg 24 30 a2 → rg 0 63 a3 → rg 0 65535 a4 → rg 0 1 s0 → rI n e f0 f g → X 42 [(0, .inr 0), (2, .inl a2), (3, .inl a3), (4, .inl a4)] [.inl s0] f g := by
    intro a2 a3 a4 s0 f g ha2 ha3 ha4 hs0 hI
    refine hX.1 2 _ rfl _ _ _ _ ?_
    refine And.intro (fun c76 => ?_) (fun c76 => ?_)
    · -- 56
      refine hX.1 3 _ rfl _ _ _ _ ?_
      exact hX.2 _ _ [(0, .inr 0), (2, .inl _), (3, .inl _), (4, .inl _), (5, .inl _)] _ _ _ (mWc rfl (mWc rfl (mWc rfl (mWc rfl (mWc rfl mW0))))) (b60 _ _ _ _ _ _ _ (rg_w (c := 24) (d := 30) ha2 (by decide +kernel)) (rg_w (c := 0) (d := 63) ha3 (by decide +kernel)) (rg_w (c := 0) (d := 65535) ha4 (by decide +kernel)) (rg_w (c := 0) (d := 1) (show rg 0 0 _ from (rg_eq (rg_c (a := 0) (b := 0) (by decide +kernel)) c76)) (by decide +kernel)) (rg_w (c := (-63)) (d := 65598) (show rg (-63) 65535 _ from (rg_sub ha4 ha3 (by decide +kernel))) (by decide +kernel)) hI)
    · -- on
      exact hX.2 _ _ [(0, .inr 0), (2, .inl _), (3, .inl _), (4, .inl _), (5, .inl _)] _ _ _ (mWc rfl (mWc rfl (mWc rfl (mWc rfl (mWc rfl mW0))))) (b60 _ _ _ _ _ _ _ (rg_w (c := 24) (d := 30) ha2 (by decide +kernel)) (rg_w (c := 0) (d := 63) ha3 (by decide +kernel)) (rg_w (c := 0) (d := 65535) ha4 (by decide +kernel)) (rg_w (c := 0) (d := 1) (show rg 1 1 _ from (rg_neL hs0 (rg_c (a := 0) (b := 0) (by decide +kernel)) c76 (by decide +kernel))) (by decide +kernel)) (rg_w (c := (-63)) (d := 65598) (show rg 0 65598 _ from (rg_add ha4 ha3 (by decide +kernel))) (by decide +kernel)) hI)
  refine hX.1 0 _ rfl _ _ _ _ ?_
  refine k_X9_pointer n e f0 _ _ _ _ (rg_w (c := 0) (d := 93) (show rg 24 30 _ from (rg_add (rg_c (a := 24) (b := 24) (by decide +kernel)) (show rg 0 6 _ from (rg_andR (rg_c (a := 6) (b := 6) (by decide +kernel)) (by decide +kernel))) (by decide +kernel))) (by decide +kernel)) hI (fun y77 hy77 => ?_)
  refine And.intro (fun c80 => ?_) (fun c80 => ?_)
  · -- 41
    refine hX.1 1 _ rfl _ _ _ _ ?_
    exact hX.2 _ _ [(0, .inr 0), (2, .inl _), (3, .inl _), (4, .inl _)] _ _ _ (mWc rfl (mWc rfl (mWc rfl (mWc rfl mW0)))) (b42 _ _ _ _ _ _ (rg_w (c := 24) (d := 30) (show rg 24 30 _ from (rg_add (rg_c (a := 24) (b := 24) (by decide +kernel)) (show rg 0 6 _ from (rg_andR (rg_c (a := 6) (b := 6) (by decide +kernel)) (by decide +kernel))) (by decide +kernel))) (by decide +kernel)) (rg_w (c := 0) (d := 63) (show rg 0 63 _ from (rg_or (k := 6) (show rg 0 15 _ from (rg_andR (rg_c (a := 15) (b := 15) (by decide +kernel)) (by decide +kernel))) (show rg 0 48 _ from (rg_andR (rg_c (a := 48) (b := 48) (by decide +kernel)) (by decide +kernel))) (by decide +kernel))) (by decide +kernel)) (rg_w (c := 0) (d := 65535) hy77 (by decide +kernel)) (rg_w (c := 0) (d := 1) (rg_c (a := 0) (b := 0) (by decide +kernel)) (by decide +kernel)) hI)
  · -- on
    exact hX.2 _ _ [(0, .inr 0), (2, .inl _), (3, .inl _), (4, .inl _)] _ _ _ (mWc rfl (mWc rfl (mWc rfl (mWc rfl mW0)))) (b42 _ _ _ _ _ _ (rg_w (c := 24) (d := 30) (show rg 24 30 _ from (rg_add (rg_c (a := 24) (b := 24) (by decide +kernel)) (show rg 0 6 _ from (rg_andR (rg_c (a := 6) (b := 6) (by decide +kernel)) (by decide +kernel))) (by decide +kernel))) (by decide +kernel)) (rg_w (c := 0) (d := 63) (show rg 0 63 _ from (rg_or (k := 6) (show rg 0 15 _ from (rg_andR (rg_c (a := 15) (b := 15) (by decide +kernel)) (by decide +kernel))) (show rg 0 48 _ from (rg_andR (rg_c (a := 48) (b := 48) (by decide +kernel)) (by decide +kernel))) (by decide +kernel))) (by decide +kernel)) (rg_w (c := 0) (d := 65535) hy77 (by decide +kernel)) (rg_w (c := 0) (d := 1) (rg_c (a := 1) (b := 1) (by decide +kernel)) (by decide +kernel)) hI)
def SPX9_portBits (S : mSp) : Prop := ∀ (n e : Int) (f0 f : mFn) (g : mGn) (K : mKr) (x1 : Int32), rg 0 65535 x1 → n + 1 ≤ 300000000 → rI n e f0 f g → (∀ (y : Int32) (f' : mFn) (g' : mGn), rg 1 3 y → rI (n + 1) e f0 f' g' → K (some (.inl y)) f' g') → S [.inr 0, .inl x1] f g K
set_option maxRecDepth 100000 in
set_option maxHeartbeats 4000000 in
theorem sfX9_portBits : SPX9_portBits spX9_portBits := by
  intro n e f0 f g K x1 hx1 hB hI hK
  refine ⟨rfl, fun X hX => ?_⟩
  obtain ⟨S_X9_load, k_X9_load, S_X9_skips, k_X9_skips, S_X9_store, k_X9_store, hX⟩ : ∃ S_X9_load, SPX9_load S_X9_load ∧ ∃ S_X9_skips, SPX9_skips S_X9_skips ∧ ∃ S_X9_store, SPX9_store S_X9_store ∧ mR shM fdX9_portBits [(241, 0, 1, 12, S_X9_load), (299, 0, 0, 12, S_X9_skips), (234, 0, 2, 12, S_X9_store)] bsX9_portBits (fun r f g => mRt (some .int) r ∧ K r f g) X := ⟨spX9_load, sfX9_load, spX9_skips, sfX9_skips, spX9_store, sfX9_store, hX⟩
  have b70 : ∀ (s0 : Int32) (f : mFn) (g : mGn), rg 1 3 s0 → rI n e f0 f g → X 70 [] [.inl s0] f g := by
    intro s0 f g hs0 hI
    refine hX.1 6 _ rfl _ _ _ _ ?_
    exact And.intro mRt_i (hK _ _ _ (rg_w (c := 1) (d := 3) hs0 (by decide +kernel)) (rM hI (by omega) (by omega)))
  have b55 : ∀ (a4 : Int32) (s0 : Int32) (f : mFn) (g : mGn), rg 0 1 a4 → rg 0 1 s0 → rI n e f0 f g → X 55 [(0, .inr 0), (4, .inl a4)] [.inl s0] f g := by
    intro a4 s0 f g ha4 hs0 hI
    refine hX.1 4 _ rfl _ _ _ _ ?_
    refine And.intro (fun c24 => ?_) (fun c24 => ?_)
    · -- 69
      refine hX.1 5 _ rfl _ _ _ _ ?_
      exact hX.2 _ _ [] _ _ _ mW0 (b70 _ _ _ (rg_w (c := 1) (d := 3) (rg_c (a := 1) (b := 1) (by decide +kernel)) (by decide +kernel)) hI)
    · -- on
      refine k_X9_skips n e f0 _ _ _  hI (fun y25 f26 gf26 hy25 hI27 => ?_)
      exact hX.2 _ _ [] _ _ _ mW0 (b70 _ _ _ (rg_w (c := 1) (d := 3) (show rg 2 3 _ from (rg_add (rg_c (a := 1) (b := 1) (by decide +kernel)) hy25 (by decide +kernel))) (by decide +kernel)) hI27)
  have b94 : ∀ (f : mFn) (g : mGn), rI (n + 1) e f0 f g → X 94 [] [] f g := by
    intro f g  hI
    refine hX.1 9 _ rfl _ _ _ _ ?_
    exact And.intro mRt_i (hK _ _ _ (rg_w (c := 1) (d := 3) (rg_c (a := 2) (b := 2) (by decide +kernel)) (by decide +kernel)) hI)
  have b83 : ∀ (a2 : Int32) (a3 : Int32) (a4 : Int32) (f : mFn) (g : mGn), rg 35 53 a2 → rg 0 128 a3 → rg 0 1 a4 → rI n e f0 f g → X 83 [(0, .inr 0), (2, .inl a2), (3, .inl a3), (4, .inl a4)] [] f g := by
    intro a2 a3 a4 f g ha2 ha3 ha4 hI
    refine hX.1 8 _ rfl _ _ _ _ ?_
    refine And.intro (fun c28 => ?_) (fun c28 => ?_)
    · -- 94
      exact hX.2 _ _ [] _ _ _ mW0 (b94  _ _  (rM hI (by omega) (by omega)))
    · -- on
      refine k_X9_store n e f0 _ _ _ _ _ (rg_w (c := 0) (d := 65535) ha2 (by decide +kernel)) (rg_w (c := 0) (d := 255) ha3 (by decide +kernel)) (by omega) hI (fun f30 gf30 hI31 => ?_)
      exact hX.2 _ _ [] _ _ _ mW0 (b94  _ _  hI31)
  have b123 : ∀ (s1 : Int32) (s2 : Int32) (f : mFn) (g : mGn), rg 32 63 s1 → rg 0 255 s2 → rI n e f0 f g → X 123 [] [.inl s2, .inl s1, .inr 0] f g := by
    intro s1 s2 f g hs1 hs2 hI
    refine hX.1 12 _ rfl _ _ _ _ ?_
    refine k_X9_store n e f0 _ _ _ _ _ (rg_w (c := 0) (d := 65535) hs1 (by decide +kernel)) (rg_w (c := 0) (d := 255) hs2 (by decide +kernel)) (by omega) hI (fun f33 gf33 hI34 => ?_)
    exact And.intro mRt_i (hK _ _ _ (rg_w (c := 1) (d := 3) (rg_c (a := 2) (b := 2) (by decide +kernel)) (by decide +kernel)) hI34)
  have b30 : ∀ (a1 : Int32) (a2 : Int32) (a3 : Int32) (s0 : Int32) (f : mFn) (g : mGn), rg 0 65535 a1 → rg 32 63 a2 → rg 0 128 a3 → rg 0 1 s0 → rI n e f0 f g → X 30 [(0, .inr 0), (1, .inl a1), (2, .inl a2), (3, .inl a3)] [.inl s0] f g := by
    intro a1 a2 a3 s0 f g ha1 ha2 ha3 hs0 hI
    refine hX.1 2 _ rfl _ _ _ _ ?_
    refine And.intro (fun c35 => ?_) (fun c35 => ?_)
    · -- 71
      refine hX.1 7 _ rfl _ _ _ _ ?_
      refine And.intro (fun c36 => ?_) (fun c36 => ?_)
      · -- 83
        exact hX.2 _ _ [(0, .inr 0), (2, .inl _), (3, .inl _), (4, .inl _)] _ _ _ (mWc rfl (mWc rfl (mWc rfl (mWc rfl mW0)))) (b83 _ _ _ _ _ (rg_w (c := 35) (d := 53) (show rg 35 35 _ from (rg_eq (rg_c (a := 35) (b := 35) (by decide +kernel)) c36)) (by decide +kernel)) (rg_w (c := 0) (d := 128) ha3 (by decide +kernel)) (rg_w (c := 0) (d := 1) hs0 (by decide +kernel)) hI)
      · -- on
        refine And.intro (fun c37 => ?_) (fun c37 => ?_)
        · -- 96
          refine hX.1 10 _ rfl _ _ _ _ ?_
          refine k_X9_load n e f0 _ _ _ _ (rg_w (c := 0) (d := 65535) ha2 (by decide +kernel)) hI (fun y38 f39 gf39 hy38 hI40 => ?_)
          refine And.intro (fun c41 => ?_) (fun c41 => ?_)
          · -- 117
            refine hX.1 11 _ rfl _ _ _ _ ?_
            exact hX.2 _ _ [] _ _ _ mW0 (b123 _ _ _ _ (rg_w (c := 32) (d := 63) ha2 (by decide +kernel)) (rg_w (c := 0) (d := 255) (show rg 0 255 _ from (rg_andL hy38 (by decide +kernel))) (by decide +kernel)) hI40)
          · -- on
            exact hX.2 _ _ [] _ _ _ mW0 (b123 _ _ _ _ (rg_w (c := 32) (d := 63) ha2 (by decide +kernel)) (rg_w (c := 0) (d := 255) (show rg 0 255 _ from (rg_or (k := 8) hy38 ha3 (by decide +kernel))) (by decide +kernel)) hI40)
        · -- on
          exact hX.2 _ _ [(0, .inr 0), (2, .inl _), (3, .inl _), (4, .inl _)] _ _ _ (mWc rfl (mWc rfl (mWc rfl (mWc rfl mW0)))) (b83 _ _ _ _ _ (rg_w (c := 35) (d := 53) (show rg 53 53 _ from (rg_eq (rg_c (a := 53) (b := 53) (by decide +kernel)) c37)) (by decide +kernel)) (rg_w (c := 0) (d := 128) ha3 (by decide +kernel)) (rg_w (c := 0) (d := 1) hs0 (by decide +kernel)) hI)
    · -- on
      refine k_X9_load n e f0 _ _ _ _ (rg_w (c := 0) (d := 65535) ha2 (by decide +kernel)) hI (fun y42 f43 gf43 hy42 hI44 => ?_)
      refine And.intro (fun c45 => ?_) (fun c45 => ?_)
      · -- 54
        refine hX.1 3 _ rfl _ _ _ _ ?_
        exact hX.2 _ _ [(0, .inr 0), (4, .inl _)] _ _ _ (mWc rfl (mWc rfl mW0)) (b55 _ _ _ _ (rg_w (c := 0) (d := 1) hs0 (by decide +kernel)) (rg_w (c := 0) (d := 1) (rg_c (a := 0) (b := 0) (by decide +kernel)) (by decide +kernel)) hI44)
      · -- on
        exact hX.2 _ _ [(0, .inr 0), (4, .inl _)] _ _ _ (mWc rfl (mWc rfl mW0)) (b55 _ _ _ _ (rg_w (c := 0) (d := 1) hs0 (by decide +kernel)) (rg_w (c := 0) (d := 1) (rg_c (a := 1) (b := 1) (by decide +kernel)) (by decide +kernel)) hI44)
  refine hX.1 0 _ rfl _ _ _ _ ?_
  refine And.intro (fun c46 => ?_) (fun c46 => ?_)
  · -- 29
    refine hX.1 1 _ rfl _ _ _ _ ?_
    exact hX.2 _ _ [(0, .inr 0), (1, .inl _), (2, .inl _), (3, .inl _)] _ _ _ (mWc rfl (mWc rfl (mWc rfl (mWc rfl mW0)))) (b30 _ _ _ _ _ _ (rg_w (c := 0) (d := 65535) hx1 (by decide +kernel)) (rg_w (c := 32) (d := 63) (show rg 32 63 _ from (rg_add (rg_c (a := 32) (b := 32) (by decide +kernel)) (show rg 0 31 _ from (rg_andR (rg_c (a := 31) (b := 31) (by decide +kernel)) (by decide +kernel))) (by decide +kernel))) (by decide +kernel)) (rg_w (c := 0) (d := 128) (show rg 0 128 _ from (rg_shlV 7 (rg_c (a := 1) (b := 1) (by decide +kernel)) (show rg 0 7 _ from (rg_andR (rg_c (a := 7) (b := 7) (by decide +kernel)) (by decide +kernel))) (by decide +kernel))) (by decide +kernel)) (rg_w (c := 0) (d := 1) (rg_c (a := 0) (b := 0) (by decide +kernel)) (by decide +kernel)) hI)
  · -- on
    exact hX.2 _ _ [(0, .inr 0), (1, .inl _), (2, .inl _), (3, .inl _)] _ _ _ (mWc rfl (mWc rfl (mWc rfl (mWc rfl mW0)))) (b30 _ _ _ _ _ _ (rg_w (c := 0) (d := 65535) hx1 (by decide +kernel)) (rg_w (c := 32) (d := 63) (show rg 32 63 _ from (rg_add (rg_c (a := 32) (b := 32) (by decide +kernel)) (show rg 0 31 _ from (rg_andR (rg_c (a := 31) (b := 31) (by decide +kernel)) (by decide +kernel))) (by decide +kernel))) (by decide +kernel)) (rg_w (c := 0) (d := 128) (show rg 0 128 _ from (rg_shlV 7 (rg_c (a := 1) (b := 1) (by decide +kernel)) (show rg 0 7 _ from (rg_andR (rg_c (a := 7) (b := 7) (by decide +kernel)) (by decide +kernel))) (by decide +kernel))) (by decide +kernel)) (rg_w (c := 0) (d := 1) (rg_c (a := 1) (b := 1) (by decide +kernel)) (by decide +kernel)) hI)
