def SPX9_code (S : mSp) : Prop := ∀ (n e : Int) (f0 f : mFn) (g : mGn) (K : mKr) (x1 : Int32), rg 0 2047 x1 → rI n e f0 f g → (∀ (y : Int32), rg 0 65535 y → K (some (.inl y)) f g) → S [.inr 0, .inl x1] f g K
set_option maxRecDepth 100000 in
set_option maxHeartbeats 4000000 in
theorem sfX9_code : SPX9_code spX9_code := by
  intro n e f0 f g K x1 hx1 hI hK
  refine ⟨rfl, fun X hX => ?_⟩
  have b37 : ∀ (s0 : Int32), rg 0 65535 s0 → X 37 [] [.inl s0] f g := by
    intro s0 hs0
    refine hX.1 2 _ rfl _ _ _ _ ?_
    exact And.intro mRt_i (hK _ (rg_w (c := 0) (d := 65535) hs0 (by decide +kernel)) )
  have b31 : ∀ (a2 : Int32), rg 0 2047 a2 → X 31 [(0, .inr 0), (2, .inl a2)] [] f g := by
    intro a2 ha2
    refine hX.1 1 _ rfl _ _ _ _ ?_
    refine And.intro (rg_in ha2 (by decide +kernel)) ?_
    exact hX.2 _ _ [] _ _ _ mW0 (b37 _ (rg_w (c := 0) (d := 65535) (gI_g hI 0 1 2048 0 65535 rfl (rg_in ha2 (by decide +kernel))) (by decide +kernel)))
  refine hX.1 0 _ rfl _ _ _ _ ?_
  refine And.intro (fun c3 => ?_) (fun c3 => ?_)
  · -- 31
    exact hX.2 _ _ [(0, .inr 0), (2, .inl _)] _ _ _ (mWc rfl (mWc rfl mW0)) (b31 _ (rg_w (c := 0) (d := 2047) (show rg 1536 2047 _ from (rg_ge (show rg 0 2047 _ from (rg_andR (rg_c (a := 2047) (b := 2047) (by decide +kernel)) (by decide +kernel))) (rg_c (a := 1536) (b := 1536) (by decide +kernel)) c3 (by decide +kernel))) (by decide +kernel)))
  · -- on
    refine And.intro (rg_in (rg_c (a := 87) (b := 87) (by decide +kernel)) (by decide +kernel)) ?_
    refine And.intro (fun c4 => ?_) (fun c4 => ?_)
    · -- 31
      exact hX.2 _ _ [(0, .inr 0), (2, .inl _)] _ _ _ (mWc rfl (mWc rfl mW0)) (b31 _ (rg_w (c := 0) (d := 2047) (show rg 0 1535 _ from (rg_lt (show rg 0 2047 _ from (rg_andR (rg_c (a := 2047) (b := 2047) (by decide +kernel)) (by decide +kernel))) (rg_c (a := 1536) (b := 1536) (by decide +kernel)) (rg_nle c3) (by decide +kernel))) (by decide +kernel)))
    · -- on
      exact hX.2 _ _ [] _ _ _ mW0 (b37 _ (rg_w (c := 0) (d := 65535) (rg_c (a := 65535) (b := 65535) (by decide +kernel)) (by decide +kernel)))
def SPX9_next (S : mSp) : Prop := ∀ (n e : Int) (f0 f : mFn) (g : mGn) (K : mKr), rI n e f0 f g → (∀ (y : Int32) (f' : mFn) (g' : mGn), rg 0 65535 y → rI n e f0 f' g' → K (some (.inl y)) f' g') → S [.inr 0] f g K
set_option maxRecDepth 100000 in
set_option maxHeartbeats 4000000 in
theorem sfX9_next : SPX9_next spX9_next := by
  intro n e f0 f g K   hI hK
  refine ⟨rfl, fun X hX => ?_⟩
  obtain ⟨S_X9_code, k_X9_code, hX⟩ : ∃ S_X9_code, SPX9_code S_X9_code ∧ mR shM fdX9_next [(228, 0, 1, 12, S_X9_code)] bsX9_next (fun r f g => mRt (some .int) r ∧ K r f g) X := ⟨spX9_code, sfX9_code, hX⟩
  refine hX.1 0 _ rfl _ _ _ _ ?_
  refine k_X9_code n e f0 _ _ _ _ (rg_w (c := 0) (d := 2047) (gI_s hI 5 12 0 2047 rfl) (by decide +kernel)) hI (fun y5 hy5 => ?_)
  exact And.intro mRt_i (hK _ _ _ (rg_w (c := 0) (d := 65535) hy5 (by decide +kernel)) (rP1 5 (rg_w (c := 0) (d := 2047) (show rg 0 2047 _ from (rg_andR (rg_c (a := 2047) (b := 2047) (by decide +kernel)) (by decide +kernel))) (by decide +kernel)) hI (by decide +kernel)))
def SPX9_skips (S : mSp) : Prop := ∀ (n e : Int) (f0 f : mFn) (g : mGn) (K : mKr), rI n e f0 f g → (∀ (y : Int32) (f' : mFn) (g' : mGn), rg 1 2 y → rI n e f0 f' g' → K (some (.inl y)) f' g') → S [.inr 0] f g K
set_option maxRecDepth 100000 in
set_option maxHeartbeats 4000000 in
theorem sfX9_skips : SPX9_skips spX9_skips := by
  intro n e f0 f g K   hI hK
  refine ⟨rfl, fun X hX => ?_⟩
  obtain ⟨S_X9_next, k_X9_next, hX⟩ : ∃ S_X9_next, SPX9_next S_X9_next ∧ mR shM fdX9_skips [(259, 0, 0, 12, S_X9_next)] bsX9_skips (fun r f g => mRt (some .int) r ∧ K r f g) X := ⟨spX9_next, sfX9_next, hX⟩
  have b29 : ∀ (f : mFn) (g : mGn), rI n e f0 f g → X 29 [(0, .inr 0)] [] f g := by
    intro f g  hI
    refine hX.1 1 _ rfl _ _ _ _ ?_
    refine k_X9_next n e f0 _ _ _  hI (fun y9 f10 gf10 hy9 hI11 => ?_)
    exact And.intro mRt_i (hK _ _ _ (rg_w (c := 1) (d := 2) (rg_c (a := 2) (b := 2) (by decide +kernel)) (by decide +kernel)) hI11)
  refine hX.1 0 _ rfl _ _ _ _ ?_
  refine k_X9_next n e f0 _ _ _  hI (fun y12 f13 gf13 hy12 hI14 => ?_)
  refine And.intro (fun c15 => ?_) (fun c15 => ?_)
  · -- 29
    exact hX.2 _ _ [(0, .inr 0)] _ _ _ (mWc rfl mW0) (b29  _ _  hI14)
  · -- on
    refine And.intro (fun c16 => ?_) (fun c16 => ?_)
    · -- 29
      exact hX.2 _ _ [(0, .inr 0)] _ _ _ (mWc rfl mW0) (b29  _ _  hI14)
    · -- on
      exact And.intro mRt_i (hK _ _ _ (rg_w (c := 1) (d := 2) (rg_c (a := 1) (b := 1) (by decide +kernel)) (by decide +kernel)) hI14)
def SPX9_bits (S : mSp) : Prop := ∀ (n e : Int) (f0 f : mFn) (g : mGn) (K : mKr) (x1 : Int32), rg 0 65535 x1 → rI n e f0 f g → (∀ (y : Int32) (f' : mFn) (g' : mGn), rg 1 3 y → rI n e f0 f' g' → K (some (.inl y)) f' g') → S [.inr 0, .inl x1] f g K
set_option maxRecDepth 100000 in
set_option maxHeartbeats 4000000 in
theorem sfX9_bits : SPX9_bits spX9_bits := by
  intro n e f0 f g K x1 hx1 hI hK
  refine ⟨rfl, fun X hX => ?_⟩
  obtain ⟨S_X9_flag, k_X9_flag, S_X9_setFlag, k_X9_setFlag, S_X9_skips, k_X9_skips, hX⟩ : ∃ S_X9_flag, SPX9_flag S_X9_flag ∧ ∃ S_X9_setFlag, SPX9_setFlag S_X9_setFlag ∧ ∃ S_X9_skips, SPX9_skips S_X9_skips ∧ mR shM fdX9_bits [(163, 0, 1, 12, S_X9_flag), (172, 0, 2, 12, S_X9_setFlag), (299, 0, 0, 12, S_X9_skips)] bsX9_bits (fun r f g => mRt (some .int) r ∧ K r f g) X := ⟨spX9_flag, sfX9_flag, spX9_setFlag, sfX9_setFlag, spX9_skips, sfX9_skips, hX⟩
  have b74 : ∀ (s1 : Int32) (s2 : Int32) (f : mFn) (g : mGn), rg 0 2047 s1 → rg (-64) 63 s2 → rI n e f0 f g → X 74 [] [.inl s2, .inl s1, .inr 0] f g := by
    intro s1 s2 f g hs1 hs2 hI
    refine hX.1 5 _ rfl _ _ _ _ ?_
    exact And.intro mRt_i (hK _ _ _ (rg_w (c := 1) (d := 3) (rg_c (a := 2) (b := 2) (by decide +kernel)) (by decide +kernel)) (rP1 5 (rg_w (c := 0) (d := 2047) (show rg 0 2047 _ from (rg_andR (rg_c (a := 2047) (b := 2047) (by decide +kernel)) (by decide +kernel))) (by decide +kernel)) hI (by decide +kernel)))
  have b46 : ∀ (a4 : Int32) (s0 : Int32) (s1 : Int32) (f : mFn) (g : mGn), rg 0 127 a4 → rg 0 1 s0 → rg 0 1 s1 → rI n e f0 f g → X 46 [(0, .inr 0), (4, .inl a4)] [.inl s1, .inl s0] f g := by
    intro a4 s0 s1 f g ha4 hs0 hs1 hI
    refine hX.1 2 _ rfl _ _ _ _ ?_
    refine And.intro (fun c27 => ?_) (fun c27 => ?_)
    · -- 51
      refine hX.1 3 _ rfl _ _ _ _ ?_
      refine And.intro (fun c28 => ?_) (fun c28 => ?_)
      · -- 72
        refine hX.1 4 _ rfl _ _ _ _ ?_
        exact hX.2 _ _ [] _ _ _ mW0 (b74 _ _ _ _ (rg_w (c := 0) (d := 2047) (gI_s hI 5 12 0 2047 rfl) (by decide +kernel)) (rg_w (c := (-64)) (d := 63) (show rg 0 63 _ from (rg_lt ha4 (rg_c (a := 64) (b := 64) (by decide +kernel)) c28 (by decide +kernel))) (by decide +kernel)) hI)
      · -- on
        exact hX.2 _ _ [] _ _ _ mW0 (b74 _ _ _ _ (rg_w (c := 0) (d := 2047) (gI_s hI 5 12 0 2047 rfl) (by decide +kernel)) (rg_w (c := (-64)) (d := 63) (show rg (-64) (-1) _ from (rg_sub (show rg 64 127 _ from (rg_ge ha4 (rg_c (a := 64) (b := 64) (by decide +kernel)) (rg_nlt c28) (by decide +kernel))) (rg_c (a := 128) (b := 128) (by decide +kernel)) (by decide +kernel))) (by decide +kernel)) hI)
    · -- on
      exact And.intro mRt_i (hK _ _ _ (rg_w (c := 1) (d := 3) (rg_c (a := 1) (b := 1) (by decide +kernel)) (by decide +kernel)) hI)
  have b187 : ∀ (s1 : Int32) (s2 : Int32) (f : mFn) (g : mGn), rg 0 31 s1 → rg 0 255 s2 → rI n e f0 f g → X 187 [] [.inl s2, .inl s1, .inr 3] f g := by
    intro s1 s2 f g hs1 hs2 hI
    refine hX.1 12 _ rfl _ _ _ _ ?_
    refine And.intro (rg_in hs1 (by decide +kernel)) ?_
    exact And.intro mRt_i (hK _ _ _ (rg_w (c := 1) (d := 3) (rg_c (a := 1) (b := 1) (by decide +kernel)) (by decide +kernel)) (gI_a1 hI 2 1280 (lo := 0) (hi := 255) (rg_w (c := 0) (d := 255) hs2 (by decide +kernel)) (by decide +kernel)))
  have b230 : ∀ (s0 : Int32) (f : mFn) (g : mGn), rg 1 3 s0 → rI n e f0 f g → X 230 [] [.inl s0] f g := by
    intro s0 f g hs0 hI
    refine hX.1 18 _ rfl _ _ _ _ ?_
    exact And.intro mRt_i (hK _ _ _ (rg_w (c := 1) (d := 3) hs0 (by decide +kernel)) hI)
  have b217 : ∀ (s0 : Int32) (s1 : Int32) (f : mFn) (g : mGn), rg 0 1 s0 → rg 0 1 s1 → rI n e f0 f g → X 217 [(0, .inr 0)] [.inl s1, .inl s0] f g := by
    intro s0 s1 f g hs0 hs1 hI
    refine hX.1 16 _ rfl _ _ _ _ ?_
    refine And.intro (fun c30 => ?_) (fun c30 => ?_)
    · -- 229
      refine hX.1 17 _ rfl _ _ _ _ ?_
      exact hX.2 _ _ [] _ _ _ mW0 (b230 _ _ _ (rg_w (c := 1) (d := 3) (rg_c (a := 1) (b := 1) (by decide +kernel)) (by decide +kernel)) hI)
    · -- on
      refine k_X9_skips n e f0 _ _ _  hI (fun y31 f32 gf32 hy31 hI33 => ?_)
      exact hX.2 _ _ [] _ _ _ mW0 (b230 _ _ _ (rg_w (c := 1) (d := 3) (show rg 2 3 _ from (rg_add (rg_c (a := 1) (b := 1) (by decide +kernel)) hy31 (by decide +kernel))) (by decide +kernel)) hI33)
  have b112 : ∀ (a1 : Int32) (a2 : Int32) (a3 : Int32) (s0 : Int32) (f : mFn) (g : mGn), rg 0 65535 a1 → rg 0 7 a2 → rg 0 31 a3 → rg 0 1 s0 → rI n e f0 f g → X 112 [(0, .inr 0), (1, .inl a1), (2, .inl a2), (3, .inl a3)] [.inl s0] f g := by
    intro a1 a2 a3 s0 f g ha1 ha2 ha3 hs0 hI
    refine hX.1 9 _ rfl _ _ _ _ ?_
    refine And.intro (fun c34 => ?_) (fun c34 => ?_)
    · -- 148
      refine hX.1 10 _ rfl _ _ _ _ ?_
      refine k_X9_flag n e f0 _ _ _ _ (rg_w (c := 0) (d := 7) (rg_c (a := 6) (b := 6) (by decide +kernel)) (by decide +kernel)) hI (fun y35 hy35 => ?_)
      refine And.intro (fun c38 => ?_) (fun c38 => ?_)
      · -- 175
        refine hX.1 11 _ rfl _ _ _ _ ?_
        refine And.intro (rg_in ha3 (by decide +kernel)) ?_
        exact hX.2 _ _ [] _ _ _ mW0 (b187 _ _ _ _ (rg_w (c := 0) (d := 31) ha3 (by decide +kernel)) (rg_w (c := 0) (d := 255) (show rg 0 255 _ from (rg_andL (gI_g hI 2 3 1280 0 255 rfl (rg_in ha3 (by decide +kernel))) (by decide +kernel))) (by decide +kernel)) hI)
      · -- on
        refine And.intro (rg_in ha3 (by decide +kernel)) ?_
        exact hX.2 _ _ [] _ _ _ mW0 (b187 _ _ _ _ (rg_w (c := 0) (d := 31) ha3 (by decide +kernel)) (rg_w (c := 0) (d := 255) (show rg 0 255 _ from (rg_or (k := 8) (gI_g hI 2 3 1280 0 255 rfl (rg_in ha3 (by decide +kernel))) (show rg 0 128 _ from (rg_shlV 7 (rg_c (a := 1) (b := 1) (by decide +kernel)) ha2 (by decide +kernel))) (by decide +kernel))) (by decide +kernel)) hI)
    · -- on
      refine And.intro (fun c39 => ?_) (fun c39 => ?_)
      · -- 190
        refine hX.1 13 _ rfl _ _ _ _ ?_
        refine k_X9_setFlag n e f0 _ _ _ _ _ (rg_w (c := 0) (d := 7) (rg_c (a := 6) (b := 6) (by decide +kernel)) (by decide +kernel)) (rg_w (c := 0) (d := 1) hs0 (by decide +kernel)) hI (fun f41 gf41 hI42 => ?_)
        exact And.intro mRt_i (hK _ _ _ (rg_w (c := 1) (d := 3) (rg_c (a := 1) (b := 1) (by decide +kernel)) (by decide +kernel)) hI42)
      · -- on
        refine hX.1 14 _ rfl _ _ _ _ ?_
        refine And.intro (fun c43 => ?_) (fun c43 => ?_)
        · -- 216
          refine hX.1 15 _ rfl _ _ _ _ ?_
          exact hX.2 _ _ [(0, .inr 0)] _ _ _ (mWc rfl mW0) (b217 _ _ _ _ (rg_w (c := 0) (d := 1) hs0 (by decide +kernel)) (rg_w (c := 0) (d := 1) (rg_c (a := 0) (b := 0) (by decide +kernel)) (by decide +kernel)) hI)
        · -- on
          exact hX.2 _ _ [(0, .inr 0)] _ _ _ (mWc rfl mW0) (b217 _ _ _ _ (rg_w (c := 0) (d := 1) hs0 (by decide +kernel)) (rg_w (c := 0) (d := 1) (rg_c (a := 1) (b := 1) (by decide +kernel)) (by decide +kernel)) hI)
  refine hX.1 0 _ rfl _ _ _ _ ?_
  refine And.intro (fun c44 => ?_) (fun c44 => ?_)
  · -- 84
    refine hX.1 6 _ rfl _ _ _ _ ?_
    refine And.intro (fun c45 => ?_) (fun c45 => ?_)
    · -- 93
      refine hX.1 7 _ rfl _ _ _ _ ?_
      refine And.intro (rg_in (show rg 0 31 _ from (rg_andR (rg_c (a := 31) (b := 31) (by decide +kernel)) (by decide +kernel))) (by decide +kernel)) ?_
      refine And.intro (fun c46 => ?_) (fun c46 => ?_)
      · -- 111
        refine hX.1 8 _ rfl _ _ _ _ ?_
        exact hX.2 _ _ [(0, .inr 0), (1, .inl _), (2, .inl _), (3, .inl _)] _ _ _ (mWc rfl (mWc rfl (mWc rfl (mWc rfl mW0)))) (b112 _ _ _ _ _ _ (rg_w (c := 0) (d := 65535) hx1 (by decide +kernel)) (rg_w (c := 0) (d := 7) (show rg 0 7 _ from (rg_andR (rg_c (a := 7) (b := 7) (by decide +kernel)) (by decide +kernel))) (by decide +kernel)) (rg_w (c := 0) (d := 31) (show rg 0 31 _ from (rg_andR (rg_c (a := 31) (b := 31) (by decide +kernel)) (by decide +kernel))) (by decide +kernel)) (rg_w (c := 0) (d := 1) (rg_c (a := 0) (b := 0) (by decide +kernel)) (by decide +kernel)) hI)
      · -- on
        exact hX.2 _ _ [(0, .inr 0), (1, .inl _), (2, .inl _), (3, .inl _)] _ _ _ (mWc rfl (mWc rfl (mWc rfl (mWc rfl mW0)))) (b112 _ _ _ _ _ _ (rg_w (c := 0) (d := 65535) hx1 (by decide +kernel)) (rg_w (c := 0) (d := 7) (show rg 0 7 _ from (rg_andR (rg_c (a := 7) (b := 7) (by decide +kernel)) (by decide +kernel))) (by decide +kernel)) (rg_w (c := 0) (d := 31) (show rg 0 31 _ from (rg_andR (rg_c (a := 31) (b := 31) (by decide +kernel)) (by decide +kernel))) (by decide +kernel)) (rg_w (c := 0) (d := 1) (rg_c (a := 1) (b := 1) (by decide +kernel)) (by decide +kernel)) hI)
    · -- on
      exact And.intro mRt_i (hK _ _ _ (rg_w (c := 1) (d := 3) (rg_c (a := 1) (b := 1) (by decide +kernel)) (by decide +kernel)) hI)
  · -- on
    refine k_X9_flag n e f0 _ _ _ _ (rg_w (c := 0) (d := 7) (show rg 0 7 _ from (rg_andR (rg_c (a := 7) (b := 7) (by decide +kernel)) (by decide +kernel))) (by decide +kernel)) hI (fun y47 hy47 => ?_)
    refine And.intro (fun c50 => ?_) (fun c50 => ?_)
    · -- 45
      refine hX.1 1 _ rfl _ _ _ _ ?_
      exact hX.2 _ _ [(0, .inr 0), (4, .inl _)] _ _ _ (mWc rfl (mWc rfl mW0)) (b46 _ _ _ _ _ (rg_w (c := 0) (d := 127) (show rg 0 127 _ from (rg_andR (rg_c (a := 127) (b := 127) (by decide +kernel)) (by decide +kernel))) (by decide +kernel)) (rg_w (c := 0) (d := 1) hy47 (by decide +kernel)) (rg_w (c := 0) (d := 1) (rg_c (a := 0) (b := 0) (by decide +kernel)) (by decide +kernel)) hI)
    · -- on
      exact hX.2 _ _ [(0, .inr 0), (4, .inl _)] _ _ _ (mWc rfl (mWc rfl mW0)) (b46 _ _ _ _ _ (rg_w (c := 0) (d := 127) (show rg 0 127 _ from (rg_andR (rg_c (a := 127) (b := 127) (by decide +kernel)) (by decide +kernel))) (by decide +kernel)) (rg_w (c := 0) (d := 1) hy47 (by decide +kernel)) (rg_w (c := 0) (d := 1) (rg_c (a := 1) (b := 1) (by decide +kernel)) (by decide +kernel)) hI)
def SPX9_burnt (S : mSp) : Prop := ∀ (n e : Int) (f0 f : mFn) (g : mGn) (K : mKr) (x1 x2 x3 : Int32), rg 0 2047 x1 → rg 0 8 x2 → x2.toInt ≤ 2048 - x1.toInt → rI n e f0 f g → (∀ (y : Int32) (g' : mGn), y.toInt = min (x2.toInt + 2) (2048 - x1.toInt) → rI n e f0 f g' → K (some (.inl y)) f g') → S [.inr 0, .inl x1, .inl x2, .inl x3] f g K
set_option maxRecDepth 100000 in
set_option maxHeartbeats 4000000 in
theorem sfX9_burnt : SPX9_burnt spX9_burnt := by
  intro n e f0 f g K x1 x2 x3 hx1 hx2 hle hI hK
  refine ⟨rfl, fun X hX => ?_⟩
  have e48 : (2048 : Int32).toInt = 2048 := by decide
  have e1 : (1 : Int32).toInt = 1 := by decide
  unfold rg at hx1 hx2
  have es : (x1 + x2).toInt = x1.toInt + x2.toInt := by
    rw [Int32.toInt_add]; exact rg_bm (by omega) (by omega)
  have en : (x2 + 1).toInt = x2.toInt + 1 := by
    rw [Int32.toInt_add, e1]; exact rg_bm (by omega) (by omega)
  have et : (x1 + (x2 + 1)).toInt = x1.toInt + x2.toInt + 1 := by
    rw [Int32.toInt_add, en, rg_bm (by omega) (by omega)]; omega
  have enn : (x2 + 1 + 1).toInt = x2.toInt + 2 := by
    rw [Int32.toInt_add, en, e1, rg_bm (by omega) (by omega)]; omega
  refine hX.1 0 _ rfl _ _ _ _ ?_
  refine And.intro (fun c6 => ?_) (fun c6 => ?_)
  · have d6 := Int32.le_iff_toInt_le.mp c6
    rw [es, e48] at d6
    refine hX.1 1 _ rfl _ _ _ _ ?_
    refine And.intro (fun c7 => ?_) (fun c7 => absurd c6 c7)
    refine hX.1 2 _ rfl _ _ _ _ ?_
    exact And.intro mRt_i (hK _ _ (by omega) hI)
  · have d6 := Int32.lt_iff_toInt_lt.mp (rg_nle c6)
    rw [es, e48] at d6
    refine And.intro (rg_in (show rg 0 2047 _ from ⟨by rw [es]; omega, by rw [es]; omega⟩) (by decide +kernel)) ?_
    refine hX.1 1 _ rfl _ _ _ _ ?_
    refine And.intro (fun c9 => ?_) (fun c9 => ?_)
    · have d9 := Int32.le_iff_toInt_le.mp c9
      rw [et, e48] at d9
      refine hX.1 2 _ rfl _ _ _ _ ?_
      exact And.intro mRt_i (hK _ _ (by rw [en]; omega) (gI_a1 hI 0 2048 (lo := 0) (hi := 65535) (rg_w (c := 0) (d := 65535) (show rg 0 65535 _ from (rg_ushrK 16 (by decide +kernel) (by decide +kernel))) (by decide +kernel)) (by decide +kernel)))
    · have d9 := Int32.lt_iff_toInt_lt.mp (rg_nle c9)
      rw [et, e48] at d9
      refine And.intro (rg_in (show rg 0 2047 _ from ⟨by rw [et]; omega, by rw [et]; omega⟩) (by decide +kernel)) ?_
      refine hX.1 2 _ rfl _ _ _ _ ?_
      exact And.intro mRt_i (hK _ _ (by rw [enn]; omega) (gI_a1 (gI_a1 hI 0 2048 (lo := 0) (hi := 65535) (rg_w (c := 0) (d := 65535) (show rg 0 65535 _ from (rg_ushrK 16 (by decide +kernel) (by decide +kernel))) (by decide +kernel)) (by decide +kernel)) 0 2048 (lo := 0) (hi := 65535) (rg_w (c := 0) (d := 65535) (show rg 0 65535 _ from (rg_andR (rg_c (a := 65535) (b := 65535) (by decide +kernel)) (by decide +kernel))) (by decide +kernel)) (by decide +kernel)))
def SPX9_burn (S : mSp) : Prop := ∀ (n e : Int) (f0 f : mFn) (g : mGn) (K : mKr) (x1 x2 x3 x4 x5 x6 : Int32), rI n e f0 f g → (∀ (y : Int32) (f' : mFn) (g' : mGn), (rg 0 2047 x1 → y.toInt = min 10 (2048 - x1.toInt) ∧ f' 0 = 0) → (¬ rg 0 2047 x1 → y = 0 ∧ f' 0 = 1) → rI n e f0 f' g' → K (some (.inl y)) f' g') → S [.inr 0, .inl x1, .inl x2, .inl x3, .inl x4, .inl x5, .inl x6] f g K
set_option maxRecDepth 100000 in
set_option maxHeartbeats 4000000 in
theorem sfX9_burn : SPX9_burn spX9_burn := by
  intro n e f0 f g K x1 x2 x3 x4 x5 x6 hI hK
  refine ⟨rfl, fun X hX => ?_⟩
  obtain ⟨S_1, k_1, S_2, k_2, hX⟩ : ∃ S_1, SQX9_right S_1 ∧ ∃ S_2, SPX9_burnt S_2 ∧ mR shM fdX9_burn [(359, 0, 1, 12, S_1), (364, 0, 3, 12, S_2)] bsX9_burn (fun r f g => mRt (some .int) r ∧ K r f g) X := ⟨spX9_right, sqX9_right, spX9_burnt, sfX9_burnt, hX⟩
  have e48 : (2048 : Int32).toInt = 2048 := by decide
  have e0 : (0 : Int32).toInt = 0 := by decide
  have no : ¬ rg 0 2047 x1 → X 16 [(0, .inr 0), (1, .inl x1), (2, .inl x2), (3, .inl x3), (4, .inl x4), (5, .inl x5), (6, .inl x6)] [.inr 0] f g := by
    intro h
    refine hX.1 1 _ rfl _ _ _ _ ?_
    refine hX.1 2 _ rfl _ _ _ _ ?_
    refine k_1 n e f0 _ _ _ _ (rg_w (c := 0) (d := 1) (rg_c (a := 0) (b := 0) (by decide +kernel)) (by decide +kernel)) hI (fun f' ht _ hI' => ?_)
    refine And.intro (fun c => absurd rfl c) (fun c => ?_)
    exact And.intro mRt_i (hK _ _ _ (fun z => absurd z h) (fun _ => ⟨rfl, ht rfl⟩) hI')
  refine hX.1 0 _ rfl _ _ _ _ ?_
  refine And.intro (fun c => no ?_) (fun c => ?_)
  · have d := Int32.lt_iff_toInt_lt.mp c
    rw [e0] at d
    intro h; unfold rg at h; omega
  have d := Int32.le_iff_toInt_le.mp (rg_nlt c)
  rw [e0] at d
  refine And.intro (fun c' => no ?_) (fun c' => ?_)
  · have d' := Int32.le_iff_toInt_le.mp c'
    rw [e48] at d'
    intro h; unfold rg at h; omega
  have d' := Int32.lt_iff_toInt_lt.mp (rg_nle c')
  rw [e48] at d'
  have hx : rg 0 2047 x1 := ⟨by omega, by omega⟩
  refine hX.1 2 _ rfl _ _ _ _ ?_
  refine k_1 n e f0 _ _ _ _ (rg_w (c := 0) (d := 1) (rg_c (a := 1) (b := 1) (by decide +kernel)) (by decide +kernel)) hI (fun f' _ ht hI1 => ?_)
  have h0 := ht (by decide)
  refine And.intro (fun _ => ?_) (fun c => absurd c (show ¬ (1 : Int32) = 0 from by decide))
  refine hX.1 3 _ rfl _ _ _ _ ?_
  refine k_2 n e f0 _ _ _ _ _ _ hx (rg_c (a := 0) (b := 8) (by decide +kernel)) (by rw [e0]; omega) hI1 (fun y1 g1 q1 hI2 => ?_)
  rw [e0] at q1
  refine k_2 n e f0 _ _ _ _ _ _ hx ⟨by omega, by omega⟩ (by omega) hI2 (fun y2 g2 q2 hI3 => ?_)
  refine k_2 n e f0 _ _ _ _ _ _ hx ⟨by omega, by omega⟩ (by omega) hI3 (fun y3 g3 q3 hI4 => ?_)
  refine k_2 n e f0 _ _ _ _ _ _ hx ⟨by omega, by omega⟩ (by omega) hI4 (fun y4 g4 q4 hI5 => ?_)
  refine k_2 n e f0 _ _ _ _ _ _ hx ⟨by omega, by omega⟩ (by omega) hI5 (fun y5 g5 q5 hI6 => ?_)
  exact And.intro mRt_i (hK _ _ _ (fun _ => ⟨by omega, h0⟩) (fun z => absurd hx z) hI6)
def SPX9_carry (S : mSp) : Prop := ∀ (n e : Int) (f0 f : mFn) (g : mGn) (K : mKr), rI n e f0 f g → (∀ (y : Int32), rg 0 1 y → K (some (.inl y)) f g) → S [.inr 0] f g K
set_option maxRecDepth 100000 in
set_option maxHeartbeats 4000000 in
theorem sfX9_carry : SPX9_carry spX9_carry := by
  intro n e f0 f g K   hI hK
  refine ⟨rfl, fun X hX => ?_⟩
  refine hX.1 0 _ rfl _ _ _ _ ?_
  refine And.intro (rg_in (rg_c (a := 95) (b := 95) (by decide +kernel)) (by decide +kernel)) ?_
  exact And.intro mRt_i (hK _ (rg_w (c := 0) (d := 1) (show rg 0 1 _ from (rg_andR (rg_c (a := 1) (b := 1) (by decide +kernel)) (by decide +kernel))) (by decide +kernel)) )
def SPX9_clearBuffer (S : mSp) : Prop := ∀ (n e : Int) (f0 f : mFn) (g : mGn) (K : mKr), rI n e f0 f g → (∀ (f' : mFn) (g' : mGn), rI n e f0 f' g' → K none f' g') → S [.inr 0] f g K
set_option maxRecDepth 100000 in
set_option maxHeartbeats 4000000 in
theorem sfX9_clearBuffer : SPX9_clearBuffer spX9_clearBuffer := by
  intro n e f0 f g K   hI hK
  refine ⟨rfl, fun X hX => ?_⟩
  have r2 : ∀ (t : Nat), ∀ (a1 : Int32) (f : mFn) (g : mGn), rg 0 32 a1 → rI n e f0 f g → (32 - Int32.toInt a1).toNat < t → X 2 [(0, .inr 0), (1, .inl a1)] [] f g := by
    intro t
    induction t with
    | zero => intro a1 f g ha1 hI hm; exact absurd hm (Nat.not_lt_zero _)
    | succ t ih =>
      intro a1 f g ha1 hI hm
      refine hX.1 1 _ rfl _ _ _ _ ?_
      refine And.intro (fun c3 => ?_) (fun c3 => ?_)
      · -- 21
        refine hX.1 2 _ rfl _ _ _ _ ?_
        exact And.intro mRt_v (hK _ _ hI)
      · -- on
        refine And.intro (rg_in (show rg 0 31 _ from (rg_lt ha1 (rg_c (a := 32) (b := 32) (by decide +kernel)) (rg_nle c3) (by decide +kernel))) (by decide +kernel)) ?_
        exact hX.2 _ _ [(0, .inr 0), (1, .inl _)] _ _ _ (mWc rfl (mWc rfl mW0)) (ih _ _ _ (rg_w (c := 0) (d := 32) (show rg 1 32 _ from (rg_add (show rg 0 31 _ from (rg_lt ha1 (rg_c (a := 32) (b := 32) (by decide +kernel)) (rg_nle c3) (by decide +kernel))) (rg_c (a := 1) (b := 1) (by decide +kernel)) (by decide +kernel))) (by decide +kernel)) (gI_a1 hI 4 32 (lo := 0) (hi := 1) (rg_w (c := 0) (d := 1) (show rg 0 0 _ from (rg_andL (rg_c (a := 0) (b := 0) (by decide +kernel)) (by decide +kernel))) (by decide +kernel)) (by decide +kernel)) (lp_m (N := 32) (rg_w (c := (-2147483648)) (d := 31) (show rg 0 31 _ from (rg_lt ha1 (rg_c (a := 32) (b := 32) (by decide +kernel)) (rg_nle c3) (by decide +kernel))) (by decide +kernel)) hm))
  have b2 : ∀ (a1 : Int32) (f : mFn) (g : mGn), rg 0 32 a1 → rI n e f0 f g → X 2 [(0, .inr 0), (1, .inl a1)] [] f g := by
    intro a1 f g ha1 hI
    exact r2 _ _ _ _ ha1 hI (Nat.lt_succ_self _)
  refine hX.1 0 _ rfl _ _ _ _ ?_
  exact hX.2 _ _ [(0, .inr 0), (1, .inl _)] _ _ _ (mWc rfl (mWc rfl mW0)) (b2 _ _ _ (rg_w (c := 0) (d := 32) (rg_c (a := 0) (b := 0) (by decide +kernel)) (by decide +kernel)) hI)
def SPX9_seen (S : mSp) : Prop := ∀ (n e : Int) (f0 f : mFn) (g : mGn) (K : mKr) (x1 : Int32), rg 0 65535 x1 → rI n e f0 f g → (∀ (y : Int32), rg 0 255 y → K (some (.inl y)) f g) → S [.inr 0, .inl x1] f g K
set_option maxRecDepth 100000 in
set_option maxHeartbeats 4000000 in
theorem sfX9_seen : SPX9_seen spX9_seen := by
  intro n e f0 f g K x1 hx1 hI hK
  refine ⟨rfl, fun X hX => ?_⟩
  have b11 : X 11 [] [] f g := by
    refine hX.1 1 _ rfl _ _ _ _ ?_
    exact And.intro mRt_i (hK _ (rg_w (c := 0) (d := 255) (rg_c (a := 0) (b := 0) (by decide +kernel)) (by decide +kernel)) )
  have b35 : ∀ (s0 : Int32), rg 0 255 s0 → X 35 [] [.inl s0] f g := by
    intro s0 hs0
    refine hX.1 4 _ rfl _ _ _ _ ?_
    exact And.intro mRt_i (hK _ (rg_w (c := 0) (d := 255) hs0 (by decide +kernel)) )
  have b103 : ∀ (s0 : Int32), rg 0 255 s0 → X 103 [] [.inl s0] f g := by
    intro s0 hs0
    refine hX.1 8 _ rfl _ _ _ _ ?_
    exact And.intro mRt_i (hK _ (rg_w (c := 0) (d := 255) hs0 (by decide +kernel)) )
  refine hX.1 0 _ rfl _ _ _ _ ?_
  refine And.intro (fun c7 => ?_) (fun c7 => ?_)
  · -- 11
    exact (rg_no (show rg 0 (-1) _ from (rg_lt hx1 (rg_c (a := 0) (b := 0) (by decide +kernel)) c7 (by decide +kernel))) (by decide +kernel)).elim
  · -- on
    refine And.intro (fun c8 => ?_) (fun c8 => ?_)
    · -- 13
      refine hX.1 2 _ rfl _ _ _ _ ?_
      refine And.intro (fun c9 => ?_) (fun c9 => ?_)
      · -- 36
        refine hX.1 5 _ rfl _ _ _ _ ?_
        refine And.intro (fun c10 => ?_) (fun c10 => ?_)
        · -- 77
          refine hX.1 6 _ rfl _ _ _ _ ?_
          refine And.intro (fun c11 => ?_) (fun c11 => ?_)
          · -- 97
            refine hX.1 7 _ rfl _ _ _ _ ?_
            refine And.intro (rg_in (show rg 0 1279 _ from (rg_lt hx1 (rg_c (a := 1280) (b := 1280) (by decide +kernel)) c8 (by decide +kernel))) (by decide +kernel)) ?_
            exact hX.2 _ _ [] _ _ _ mW0 (b103 _ (rg_w (c := 0) (d := 255) (gI_g hI 2 3 1280 0 255 rfl (rg_in (show rg 0 1279 _ from (rg_lt hx1 (rg_c (a := 1280) (b := 1280) (by decide +kernel)) c8 (by decide +kernel))) (by decide +kernel))) (by decide +kernel)))
          · -- on
            refine And.intro (rg_in (rg_c (a := 63) (b := 63) (by decide +kernel)) (by decide +kernel)) ?_
            exact hX.2 _ _ [] _ _ _ mW0 (b103 _ (rg_w (c := 0) (d := 255) (show rg 0 254 _ from (rg_andR (rg_c (a := 254) (b := 254) (by decide +kernel)) (by decide +kernel))) (by decide +kernel)))
        · -- on
          refine And.intro (rg_in (rg_c (a := 37) (b := 37) (by decide +kernel)) (by decide +kernel)) ?_
          refine And.intro (rg_in (rg_c (a := 36) (b := 36) (by decide +kernel)) (by decide +kernel)) ?_
          refine And.intro (rg_in (rg_c (a := 36) (b := 36) (by decide +kernel)) (by decide +kernel)) ?_
          exact And.intro mRt_i (hK _ (rg_w (c := 0) (d := 255) (show rg 0 255 _ from (rg_or (k := 8) (show rg 0 255 _ from (rg_andR (gI_g hI 2 3 1280 0 255 rfl (rg_in (rg_c (a := 36) (b := 36) (by decide +kernel)) (by decide +kernel))) (by decide +kernel))) (show rg 0 255 _ from (rg_andR (rg_c (a := 255) (b := 255) (by decide +kernel)) (by decide +kernel))) (by decide +kernel))) (by decide +kernel)) )
      · -- on
        refine And.intro (fun c12 => ?_) (fun c12 => ?_)
        · -- 34
          refine hX.1 3 _ rfl _ _ _ _ ?_
          exact hX.2 _ _ [] _ _ _ mW0 (b35 _ (rg_w (c := 0) (d := 255) (rg_c (a := 0) (b := 0) (by decide +kernel)) (by decide +kernel)))
        · -- on
          exact hX.2 _ _ [] _ _ _ mW0 (b35 _ (rg_w (c := 0) (d := 255) (gI_s hI 9 30 0 255 rfl) (by decide +kernel)))
    · -- on
      exact hX.2 _ _ [] _ _ _ mW0 (b11  )
def SPX9_data (S : mSp) : Prop := ∀ (n e : Int) (f0 f : mFn) (g : mGn) (K : mKr) (x1 : Int32), rI n e f0 f g → (∀ (y : Int32) (f' : mFn) (g' : mGn), rg 0 255 y → rI n e f0 f' g' → K (some (.inl y)) f' g') → S [.inr 0, .inl x1] f g K
set_option maxRecDepth 100000 in
set_option maxHeartbeats 4000000 in
theorem sfX9_data : SPX9_data spX9_data := by
  intro n e f0 f g K x1  hI hK
  refine ⟨rfl, fun X hX => ?_⟩
  obtain ⟨S_X9_right, k_X9_right, S_X9_seen, k_X9_seen, hX⟩ : ∃ S_X9_right, SPX9_right S_X9_right ∧ ∃ S_X9_seen, SPX9_seen S_X9_seen ∧ mR shM fdX9_data [(359, 0, 1, 12, S_X9_right), (134, 0, 1, 12, S_X9_seen)] bsX9_data (fun r f g => mRt (some .int) r ∧ K r f g) X := ⟨spX9_right, sfX9_right, spX9_seen, sfX9_seen, hX⟩
  refine hX.1 0 _ rfl _ _ _ _ ?_
  refine And.intro (fun c18 => ?_) (fun c18 => ?_)
  · -- 16
    refine hX.1 1 _ rfl _ _ _ _ ?_
    refine hX.1 2 _ rfl _ _ _ _ ?_
    refine k_X9_right n e f0 _ _ _ _ (rg_w (c := 0) (d := 1) (rg_c (a := 0) (b := 0) (by decide +kernel)) (by decide +kernel)) hI (fun f20 gf20 hI21 => ?_)
    refine And.intro (fun c22 => ?_) (fun c22 => ?_)
    · -- 31
      refine hX.1 3 _ rfl _ _ _ _ ?_
      refine hX.1 4 _ rfl _ _ _ _ ?_
      exact And.intro mRt_i (hK _ _ _ (rg_w (c := 0) (d := 255) (rg_c (a := 0) (b := 0) (by decide +kernel)) (by decide +kernel)) hI21)
    · -- on
      exact (rg_no (show rg 1 0 _ from (rg_neN (rg_c (a := 0) (b := 0) (by decide +kernel)) (rg_c (a := 0) (b := 0) (by decide +kernel)) c22 (by decide +kernel))) (by decide +kernel)).elim
  · -- on
    refine And.intro (fun c23 => ?_) (fun c23 => ?_)
    · -- 16
      refine hX.1 1 _ rfl _ _ _ _ ?_
      refine hX.1 2 _ rfl _ _ _ _ ?_
      refine k_X9_right n e f0 _ _ _ _ (rg_w (c := 0) (d := 1) (rg_c (a := 0) (b := 0) (by decide +kernel)) (by decide +kernel)) hI (fun f25 gf25 hI26 => ?_)
      refine And.intro (fun c27 => ?_) (fun c27 => ?_)
      · -- 31
        refine hX.1 3 _ rfl _ _ _ _ ?_
        refine hX.1 4 _ rfl _ _ _ _ ?_
        exact And.intro mRt_i (hK _ _ _ (rg_w (c := 0) (d := 255) (rg_c (a := 0) (b := 0) (by decide +kernel)) (by decide +kernel)) hI26)
      · -- on
        exact (rg_no (show rg 1 0 _ from (rg_neN (rg_c (a := 0) (b := 0) (by decide +kernel)) (rg_c (a := 0) (b := 0) (by decide +kernel)) c27 (by decide +kernel))) (by decide +kernel)).elim
    · -- on
      refine hX.1 2 _ rfl _ _ _ _ ?_
      refine k_X9_right n e f0 _ _ _ _ (rg_w (c := 0) (d := 1) (rg_c (a := 1) (b := 1) (by decide +kernel)) (by decide +kernel)) hI (fun f29 gf29 hI30 => ?_)
      refine And.intro (fun c31 => ?_) (fun c31 => ?_)
      · -- 31
        exact (rg_no (show rg 1 0 _ from (rg_eqN (rg_c (a := 1) (b := 1) (by decide +kernel)) (rg_c (a := 0) (b := 0) (by decide +kernel)) c31 (by decide +kernel))) (by decide +kernel)).elim
      · -- on
        refine k_X9_seen n e f0 _ _ _ _ (rg_w (c := 0) (d := 65535) (show rg 0 1279 _ from (rg_lt (show rg 0 2147483647 _ from (rg_ge (rg_all _) (rg_c (a := 0) (b := 0) (by decide +kernel)) (rg_nlt c18) (by decide +kernel))) (rg_c (a := 1280) (b := 1280) (by decide +kernel)) (rg_nle c23) (by decide +kernel))) (by decide +kernel)) hI30 (fun y32 hy32 => ?_)
        refine hX.1 4 _ rfl _ _ _ _ ?_
        exact And.intro mRt_i (hK _ _ _ (rg_w (c := 0) (d := 255) hy32 (by decide +kernel)) hI30)
def SPX9_holds (S : mSp) : Prop := ∀ (n e : Int) (f0 f : mFn) (g : mGn) (K : mKr) (x0 : Int32), rg 0 1279 x0 → rI n e f0 f g → (∀ (y : Int32), rg 0 1 y → K (some (.inl y)) f g) → S [.inl x0] f g K
set_option maxRecDepth 100000 in
set_option maxHeartbeats 4000000 in
theorem sfX9_holds : SPX9_holds spX9_holds := by
  intro n e f0 f g K x0 hx0 hI hK
  refine ⟨rfl, fun X hX => ?_⟩
  have b148 : X 148 [] [] f g := by
    refine hX.1 1 _ rfl _ _ _ _ ?_
    exact And.intro (mRt_z (rg_01 (rg_c (a := 1) (b := 1) (by decide +kernel)) (by decide +kernel))) (hK _ (rg_w (c := 0) (d := 1) (rg_c (a := 1) (b := 1) (by decide +kernel)) (by decide +kernel)) )
  have b175 : ∀ (s0 : Int32), rg 0 1 s0 → X 175 [] [.inl s0] f g := by
    intro s0 hs0
    refine hX.1 5 _ rfl _ _ _ _ ?_
    exact And.intro (mRt_z (rg_01 hs0 (by decide +kernel))) (hK _ (rg_w (c := 0) (d := 1) hs0 (by decide +kernel)) )
  have b170 : X 170 [] [] f g := by
    refine hX.1 3 _ rfl _ _ _ _ ?_
    exact hX.2 _ _ [] _ _ _ mW0 (b175 _ (rg_w (c := 0) (d := 1) (rg_c (a := 1) (b := 1) (by decide +kernel)) (by decide +kernel)))
  have b174 : X 174 [] [] f g := by
    refine hX.1 4 _ rfl _ _ _ _ ?_
    exact hX.2 _ _ [] _ _ _ mW0 (b175 _ (rg_w (c := 0) (d := 1) (rg_c (a := 0) (b := 0) (by decide +kernel)) (by decide +kernel)))
  refine hX.1 0 _ rfl _ _ _ _ ?_
  refine And.intro (fun c21 => ?_) (fun c21 => ?_)
  · -- 148
    exact hX.2 _ _ [] _ _ _ mW0 (b148  )
  · -- on
    refine And.intro (fun c22 => ?_) (fun c22 => ?_)
    · -- 148
      exact hX.2 _ _ [] _ _ _ mW0 (b148  )
    · -- on
      refine And.intro (fun c23 => ?_) (fun c23 => ?_)
      · -- 148
        exact hX.2 _ _ [] _ _ _ mW0 (b148  )
      · -- on
        refine And.intro (fun c24 => ?_) (fun c24 => ?_)
        · -- 148
          exact hX.2 _ _ [] _ _ _ mW0 (b148  )
        · -- on
          refine And.intro (fun c25 => ?_) (fun c25 => ?_)
          · -- 148
            exact hX.2 _ _ [] _ _ _ mW0 (b148  )
          · -- on
            refine And.intro (fun c26 => ?_) (fun c26 => ?_)
            · -- 148
              exact hX.2 _ _ [] _ _ _ mW0 (b148  )
            · -- on
              refine And.intro (fun c27 => ?_) (fun c27 => ?_)
              · -- 148
                exact hX.2 _ _ [] _ _ _ mW0 (b148  )
              · -- on
                refine And.intro (fun c28 => ?_) (fun c28 => ?_)
                · -- 148
                  exact hX.2 _ _ [] _ _ _ mW0 (b148  )
                · -- on
                  refine And.intro (fun c29 => ?_) (fun c29 => ?_)
                  · -- 148
                    exact hX.2 _ _ [] _ _ _ mW0 (b148  )
                  · -- on
                    refine And.intro (fun c30 => ?_) (fun c30 => ?_)
                    · -- 148
                      exact hX.2 _ _ [] _ _ _ mW0 (b148  )
                    · -- on
                      refine And.intro (fun c31 => ?_) (fun c31 => ?_)
                      · -- 148
                        exact hX.2 _ _ [] _ _ _ mW0 (b148  )
                      · -- on
                        refine And.intro (fun c32 => ?_) (fun c32 => ?_)
                        · -- 148
                          exact hX.2 _ _ [] _ _ _ mW0 (b148  )
                        · -- on
                          refine And.intro (fun c33 => ?_) (fun c33 => ?_)
                          · -- 148
                            exact hX.2 _ _ [] _ _ _ mW0 (b148  )
                          · -- on
                            refine And.intro (fun c34 => ?_) (fun c34 => ?_)
                            · -- 148
                              exact hX.2 _ _ [] _ _ _ mW0 (b148  )
                            · -- on
                              refine And.intro (fun c35 => ?_) (fun c35 => ?_)
                              · -- 148
                                exact hX.2 _ _ [] _ _ _ mW0 (b148  )
                              · -- on
                                refine And.intro (fun c36 => ?_) (fun c36 => ?_)
                                · -- 148
                                  exact hX.2 _ _ [] _ _ _ mW0 (b148  )
                                · -- on
                                  refine And.intro (fun c37 => ?_) (fun c37 => ?_)
                                  · -- 148
                                    exact hX.2 _ _ [] _ _ _ mW0 (b148  )
                                  · -- on
                                    refine hX.1 2 _ rfl _ _ _ _ ?_
                                    refine And.intro (fun c38 => ?_) (fun c38 => ?_)
                                    · -- 170
                                      exact hX.2 _ _ [] _ _ _ mW0 (b170  )
                                    · -- on
                                      refine And.intro (fun c39 => ?_) (fun c39 => ?_)
                                      · -- 174
                                        exact hX.2 _ _ [] _ _ _ mW0 (b174  )
                                      · -- on
                                        refine And.intro (fun c40 => ?_) (fun c40 => ?_)
                                        · -- 174
                                          exact (rg_no (show rg 1280 1279 _ from (rg_ge (show rg 256 1279 _ from (rg_ge (show rg 32 1279 _ from (rg_ge hx0 (rg_c (a := 32) (b := 32) (by decide +kernel)) (rg_nlt c38) (by decide +kernel))) (rg_c (a := 256) (b := 256) (by decide +kernel)) (rg_nlt c39) (by decide +kernel))) (rg_c (a := 1280) (b := 1280) (by decide +kernel)) c40 (by decide +kernel))) (by decide +kernel)).elim
                                        · -- on
                                          exact hX.2 _ _ [] _ _ _ mW0 (b170  )
def SPX9_storeRom (S : mSp) : Prop := ∀ (n e : Int) (f0 f : mFn) (g : mGn) (K : mKr) (x1 : Int32), rg 0 255 x1 → n + 1 ≤ 300000000 → rI n e f0 f g → (∀ (f' : mFn) (g' : mGn), rI (n + 1) e f0 f' g' → K none f' g') → S [.inr 0, .inl x1] f g K
set_option maxRecDepth 100000 in
set_option maxHeartbeats 4000000 in
theorem sfX9_storeRom : SPX9_storeRom spX9_storeRom := by
  intro n e f0 f g K x1 hx1 hB hI hK
  refine ⟨rfl, fun X hX => ?_⟩
  have b183 : ∀ (f : mFn) (g : mGn), rI (n + 1) e f0 f g → X 183 [] [] f g := by
    intro f g  hI
    refine hX.1 5 _ rfl _ _ _ _ ?_
    exact And.intro mRt_v (hK _ _ hI)
  have b136 : ∀ (a1 : Int32) (f : mFn) (g : mGn), rg 0 255 a1 → rI n e f0 f g → X 136 [(0, .inr 0), (1, .inl a1)] [] f g := by
    intro a1 f g ha1 hI
    refine hX.1 4 _ rfl _ _ _ _ ?_
    refine And.intro (fun c17 => ?_) (fun c17 => ?_)
    · -- 183
      exact hX.2 _ _ [] _ _ _ mW0 (b183  _ _  (rM hI (by omega) (by omega)))
    · -- on
      refine And.intro (rg_in (rg_c (a := 63) (b := 63) (by decide +kernel)) (by decide +kernel)) ?_
      refine And.intro (fun c18 => ?_) (fun c18 => ?_)
      · -- 183
        exact hX.2 _ _ [] _ _ _ mW0 (b183  _ _  (rM hI (by omega) (by omega)))
      · -- on
        refine And.intro (rg_in (rg_c (a := 65) (b := 65) (by decide +kernel)) (by decide +kernel)) ?_
        refine And.intro (rg_in (gI_g hI 2 3 1280 0 255 rfl (rg_in (rg_c (a := 65) (b := 65) (by decide +kernel)) (by decide +kernel))) (by decide +kernel)) ?_
        refine And.intro (rg_in (rg_c (a := 64) (b := 64) (by decide +kernel)) (by decide +kernel)) ?_
        exact hX.2 _ _ [] _ _ _ mW0 (b183  _ _  (rDl4 (gI_a1 hI 2 1280 (lo := 0) (hi := 255) (rg_w (c := 0) (d := 255) (gI_g hI 3 4 256 0 255 rfl (rg_in (gI_g hI 2 3 1280 0 255 rfl (rg_in (rg_c (a := 65) (b := 65) (by decide +kernel)) (by decide +kernel))) (by decide +kernel))) (by decide +kernel)) (by decide +kernel)) (by omega)))
  have b63 : ∀ (a1 : Int32) (a2 : Int32) (f : mFn) (g : mGn), rg 0 255 a1 → rg 0 1 a2 → rI n e f0 f g → X 63 [(0, .inr 0), (1, .inl a1), (2, .inl a2)] [] f g := by
    intro a1 a2 f g ha1 ha2 hI
    refine hX.1 3 _ rfl _ _ _ _ ?_
    refine And.intro (fun c21 => ?_) (fun c21 => ?_)
    · -- 136
      exact hX.2 _ _ [(0, .inr 0), (1, .inl _)] _ _ _ (mWc rfl (mWc rfl mW0)) (b136 _ _ _ (rg_w (c := 0) (d := 255) ha1 (by decide +kernel)) hI)
    · -- on
      refine And.intro (fun c22 => ?_) (fun c22 => ?_)
      · -- 136
        exact hX.2 _ _ [(0, .inr 0), (1, .inl _)] _ _ _ (mWc rfl (mWc rfl mW0)) (b136 _ _ _ (rg_w (c := 0) (d := 255) ha1 (by decide +kernel)) hI)
      · -- on
        refine And.intro (rg_in (rg_c (a := 63) (b := 63) (by decide +kernel)) (by decide +kernel)) ?_
        refine And.intro (fun c23 => ?_) (fun c23 => ?_)
        · -- 136
          exact hX.2 _ _ [(0, .inr 0), (1, .inl _)] _ _ _ (mWc rfl (mWc rfl mW0)) (b136 _ _ _ (rg_w (c := 0) (d := 255) ha1 (by decide +kernel)) hI)
        · -- on
          refine And.intro (rg_in (rg_c (a := 65) (b := 65) (by decide +kernel)) (by decide +kernel)) ?_
          refine And.intro (rg_in (rg_c (a := 64) (b := 64) (by decide +kernel)) (by decide +kernel)) ?_
          refine And.intro (rg_in (gI_g hI 2 3 1280 0 255 rfl (rg_in (rg_c (a := 65) (b := 65) (by decide +kernel)) (by decide +kernel))) (by decide +kernel)) ?_
          refine And.intro (rg_in (rg_c (a := 63) (b := 63) (by decide +kernel)) (by decide +kernel)) ?_
          refine And.intro (rg_in (rg_c (a := 63) (b := 63) (by decide +kernel)) (by decide +kernel)) ?_
          exact hX.2 _ _ [(0, .inr 0), (1, .inl _)] _ _ _ (mWc rfl (mWc rfl mW0)) (b136 _ _ _ (rg_w (c := 0) (d := 255) ha1 (by decide +kernel)) (rP0 (rP0 (gI_a1 (gI_a1 hI 3 256 (lo := 0) (hi := 255) (rg_w (c := 0) (d := 255) (gI_g hI 2 3 1280 0 255 rfl (rg_in (rg_c (a := 64) (b := 64) (by decide +kernel)) (by decide +kernel))) (by decide +kernel)) (by decide +kernel)) 2 1280 (lo := 0) (hi := 255) (rg_w (c := 0) (d := 255) (show rg 0 255 _ from (rg_or (k := 8) (show rg 0 251 _ from (rg_andR (rg_c (a := 251) (b := 251) (by decide +kernel)) (by decide +kernel))) (rg_c (a := 2) (b := 2) (by decide +kernel)) (by decide +kernel))) (by decide +kernel)) (by decide +kernel)) (by decide +kernel)) (by decide +kernel)))
  have b17 : ∀ (a1 : Int32) (s0 : Int32) (f : mFn) (g : mGn), rg 0 255 a1 → rg 0 1 s0 → rI n e f0 f g → X 17 [(0, .inr 0), (1, .inl a1)] [.inl s0] f g := by
    intro a1 s0 f g ha1 hs0 hI
    refine hX.1 2 _ rfl _ _ _ _ ?_
    refine And.intro (rg_in (rg_c (a := 63) (b := 63) (by decide +kernel)) (by decide +kernel)) ?_
    refine And.intro (rg_in (rg_c (a := 63) (b := 63) (by decide +kernel)) (by decide +kernel)) ?_
    refine And.intro (fun c29 => ?_) (fun c29 => ?_)
    · -- 63
      exact hX.2 _ _ [(0, .inr 0), (1, .inl _), (2, .inl _)] _ _ _ (mWc rfl (mWc rfl (mWc rfl mW0))) (b63 _ _ _ _ (rg_w (c := 0) (d := 255) ha1 (by decide +kernel)) (rg_w (c := 0) (d := 1) hs0 (by decide +kernel)) (gI_a1 hI 2 1280 (lo := 0) (hi := 255) (rg_w (c := 0) (d := 255) (show rg 0 255 _ from (rg_or (k := 8) (show rg 0 247 _ from (rg_andR (rg_c (a := 247) (b := 247) (by decide +kernel)) (by decide +kernel))) (show rg 0 8 _ from (rg_andR (rg_c (a := 8) (b := 8) (by decide +kernel)) (by decide +kernel))) (by decide +kernel))) (by decide +kernel)) (by decide +kernel)))
    · -- on
      refine And.intro (rg_in (rg_c (a := 63) (b := 63) (by decide +kernel)) (by decide +kernel)) ?_
      refine And.intro (rg_in (rg_c (a := 63) (b := 63) (by decide +kernel)) (by decide +kernel)) ?_
      exact hX.2 _ _ [(0, .inr 0), (1, .inl _), (2, .inl _)] _ _ _ (mWc rfl (mWc rfl (mWc rfl mW0))) (b63 _ _ _ _ (rg_w (c := 0) (d := 255) ha1 (by decide +kernel)) (rg_w (c := 0) (d := 1) hs0 (by decide +kernel)) (rP0 (gI_a1 (gI_a1 hI 2 1280 (lo := 0) (hi := 255) (rg_w (c := 0) (d := 255) (show rg 0 255 _ from (rg_or (k := 8) (show rg 0 247 _ from (rg_andR (rg_c (a := 247) (b := 247) (by decide +kernel)) (by decide +kernel))) (show rg 0 8 _ from (rg_andR (rg_c (a := 8) (b := 8) (by decide +kernel)) (by decide +kernel))) (by decide +kernel))) (by decide +kernel)) (by decide +kernel)) 2 1280 (lo := 0) (hi := 255) (rg_w (c := 0) (d := 255) (show rg 0 255 _ from (rg_or (k := 8) (gI_g (gI_a1 hI 2 1280 (lo := 0) (hi := 255) (rg_w (c := 0) (d := 255) (show rg 0 255 _ from (rg_or (k := 8) (show rg 0 247 _ from (rg_andR (rg_c (a := 247) (b := 247) (by decide +kernel)) (by decide +kernel))) (show rg 0 8 _ from (rg_andR (rg_c (a := 8) (b := 8) (by decide +kernel)) (by decide +kernel))) (by decide +kernel))) (by decide +kernel)) (by decide +kernel)) 2 3 1280 0 255 rfl (rg_in (rg_c (a := 63) (b := 63) (by decide +kernel)) (by decide +kernel))) (rg_c (a := 4) (b := 4) (by decide +kernel)) (by decide +kernel))) (by decide +kernel)) (by decide +kernel)) (by decide +kernel)))
  refine hX.1 0 _ rfl _ _ _ _ ?_
  refine And.intro (rg_in (rg_c (a := 63) (b := 63) (by decide +kernel)) (by decide +kernel)) ?_
  refine And.intro (fun c32 => ?_) (fun c32 => ?_)
  · -- 16
    refine hX.1 1 _ rfl _ _ _ _ ?_
    exact hX.2 _ _ [(0, .inr 0), (1, .inl _)] _ _ _ (mWc rfl (mWc rfl mW0)) (b17 _ _ _ _ (rg_w (c := 0) (d := 255) hx1 (by decide +kernel)) (rg_w (c := 0) (d := 1) (rg_c (a := 0) (b := 0) (by decide +kernel)) (by decide +kernel)) hI)
  · -- on
    exact hX.2 _ _ [(0, .inr 0), (1, .inl _)] _ _ _ (mWc rfl (mWc rfl mW0)) (b17 _ _ _ _ (rg_w (c := 0) (d := 255) hx1 (by decide +kernel)) (rg_w (c := 0) (d := 1) (rg_c (a := 1) (b := 1) (by decide +kernel)) (by decide +kernel)) hI)
def SPX9_storeVectors (S : mSp) : Prop := ∀ (n e : Int) (f0 f : mFn) (g : mGn) (K : mKr) (x1 : Int32), rg 0 255 x1 → rI n e f0 f g → (∀ (f' : mFn) (g' : mGn), rI n e f0 f' g' → K none f' g') → S [.inr 0, .inl x1] f g K
set_option maxRecDepth 100000 in
set_option maxHeartbeats 4000000 in
theorem sfX9_storeVectors : SPX9_storeVectors spX9_storeVectors := by
  intro n e f0 f g K x1 hx1 hI hK
  refine ⟨rfl, fun X hX => ?_⟩
  have b50 : ∀ (f : mFn) (g : mGn), rI n e f0 f g → X 50 [] [] f g := by
    intro f g  hI
    refine hX.1 2 _ rfl _ _ _ _ ?_
    exact And.intro mRt_v (hK _ _ hI)
  refine hX.1 0 _ rfl _ _ _ _ ?_
  refine And.intro (fun c7 => ?_) (fun c7 => ?_)
  · -- 23
    refine hX.1 1 _ rfl _ _ _ _ ?_
    refine And.intro (rg_in (rg_c (a := 85) (b := 85) (by decide +kernel)) (by decide +kernel)) ?_
    refine And.intro (fun c8 => ?_) (fun c8 => ?_)
    · -- 50
      exact hX.2 _ _ [] _ _ _ mW0 (b50  _ _  hI)
    · -- on
      refine And.intro (rg_in (rg_c (a := 85) (b := 85) (by decide +kernel)) (by decide +kernel)) ?_
      exact hX.2 _ _ [] _ _ _ mW0 (b50  _ _  (rP0 (gI_a1 hI 2 1280 (lo := 0) (hi := 255) (rg_w (c := 0) (d := 255) (show rg 0 2 _ from (rg_andR (rg_c (a := 2) (b := 2) (by decide +kernel)) (by decide +kernel))) (by decide +kernel)) (by decide +kernel)) (by decide +kernel)))
  · -- on
    refine And.intro (rg_in (rg_c (a := 85) (b := 85) (by decide +kernel)) (by decide +kernel)) ?_
    refine And.intro (rg_in (rg_c (a := 85) (b := 85) (by decide +kernel)) (by decide +kernel)) ?_
    exact And.intro mRt_v (hK _ _ (rP0 (gI_a1 hI 2 1280 (lo := 0) (hi := 255) (rg_w (c := 0) (d := 255) (show rg 0 255 _ from (rg_or (k := 8) (gI_g hI 2 3 1280 0 255 rfl (rg_in (rg_c (a := 85) (b := 85) (by decide +kernel)) (by decide +kernel))) (rg_c (a := 1) (b := 1) (by decide +kernel)) (by decide +kernel))) (by decide +kernel)) (by decide +kernel)) (by decide +kernel)))
def SPX9_storeFlash (S : mSp) : Prop := ∀ (n e : Int) (f0 f : mFn) (g : mGn) (K : mKr) (x1 : Int32), rg 0 255 x1 → rI n e f0 f g → (∀ (f' : mFn) (g' : mGn), rI n e f0 f' g' → K none f' g') → S [.inr 0, .inl x1] f g K
set_option maxRecDepth 100000 in
set_option maxHeartbeats 4000000 in
theorem sfX9_storeFlash : SPX9_storeFlash spX9_storeFlash := by
  intro n e f0 f g K x1 hx1 hI hK
  refine ⟨rfl, fun X hX => ?_⟩
  have b66 : ∀ (s1 : Int32) (f : mFn) (g : mGn), rg 0 4 s1 → rI n e f0 f g → X 66 [] [.inl s1, .inr 0] f g := by
    intro s1 f g hs1 hI
    refine hX.1 3 _ rfl _ _ _ _ ?_
    exact And.intro mRt_v (hK _ _ (rP0 hI (by decide +kernel)))
  refine hX.1 0 _ rfl _ _ _ _ ?_
  refine And.intro (fun c7 => ?_) (fun c7 => ?_)
  · -- 31
    refine hX.1 1 _ rfl _ _ _ _ ?_
    refine And.intro (rg_in (rg_c (a := 87) (b := 87) (by decide +kernel)) (by decide +kernel)) ?_
    refine And.intro (rg_in (rg_c (a := 87) (b := 87) (by decide +kernel)) (by decide +kernel)) ?_
    refine And.intro (fun c9 => ?_) (fun c9 => ?_)
    · -- 65
      refine hX.1 2 _ rfl _ _ _ _ ?_
      exact hX.2 _ _ [] _ _ _ mW0 (b66 _ _ _ (rg_w (c := 0) (d := 4) (rg_c (a := 0) (b := 0) (by decide +kernel)) (by decide +kernel)) (gI_a1 hI 2 1280 (lo := 0) (hi := 255) (rg_w (c := 0) (d := 255) (show rg 0 255 _ from (rg_or (k := 8) (show rg 0 96 _ from (rg_andR (rg_c (a := 96) (b := 96) (by decide +kernel)) (by decide +kernel))) (show rg 0 159 _ from (rg_andR (rg_c (a := 159) (b := 159) (by decide +kernel)) (by decide +kernel))) (by decide +kernel))) (by decide +kernel)) (by decide +kernel)))
    · -- on
      exact hX.2 _ _ [] _ _ _ mW0 (b66 _ _ _ (rg_w (c := 0) (d := 4) (rg_c (a := 4) (b := 4) (by decide +kernel)) (by decide +kernel)) (gI_a1 hI 2 1280 (lo := 0) (hi := 255) (rg_w (c := 0) (d := 255) (show rg 0 255 _ from (rg_or (k := 8) (show rg 0 96 _ from (rg_andR (rg_c (a := 96) (b := 96) (by decide +kernel)) (by decide +kernel))) (show rg 0 159 _ from (rg_andR (rg_c (a := 159) (b := 159) (by decide +kernel)) (by decide +kernel))) (by decide +kernel))) (by decide +kernel)) (by decide +kernel)))
  · -- on
    refine And.intro (rg_in (rg_c (a := 87) (b := 87) (by decide +kernel)) (by decide +kernel)) ?_
    refine And.intro (rg_in (rg_c (a := 87) (b := 87) (by decide +kernel)) (by decide +kernel)) ?_
    exact And.intro mRt_v (hK _ _ (gI_a1 hI 2 1280 (lo := 0) (hi := 255) (rg_w (c := 0) (d := 255) (show rg 0 255 _ from (rg_or (k := 8) (show rg 0 127 _ from (rg_andR (rg_c (a := 127) (b := 127) (by decide +kernel)) (by decide +kernel))) (show rg 0 128 _ from (rg_andR (rg_c (a := 128) (b := 128) (by decide +kernel)) (by decide +kernel))) (by decide +kernel))) (by decide +kernel)) (by decide +kernel)))
def SPX9_holdDog (S : mSp) : Prop := ∀ (n e : Int) (f0 f : mFn) (g : mGn) (K : mKr), rI n e f0 f g → (∀ (f' : mFn) (g' : mGn), rI n e f0 f' g' → K none f' g') → S [.inr 0] f g K
set_option maxRecDepth 100000 in
set_option maxHeartbeats 4000000 in
theorem sfX9_holdDog : SPX9_holdDog spX9_holdDog := by
  intro n e f0 f g K   hI hK
  refine ⟨rfl, fun X hX => ?_⟩
  refine hX.1 0 _ rfl _ _ _ _ ?_
  refine And.intro (rg_in (rg_c (a := 96) (b := 96) (by decide +kernel)) (by decide +kernel)) ?_
  refine And.intro (rg_in (rg_c (a := 84) (b := 84) (by decide +kernel)) (by decide +kernel)) ?_
  refine And.intro (rg_in (rg_c (a := 96) (b := 96) (by decide +kernel)) (by decide +kernel)) ?_
  exact And.intro mRt_v (hK _ _ (gI_a1 hI 2 1280 (lo := 0) (hi := 255) (rg_w (c := 0) (d := 255) (show rg 0 255 _ from (rg_or (k := 8) (gI_g hI 2 3 1280 0 255 rfl (rg_in (rg_c (a := 96) (b := 96) (by decide +kernel)) (by decide +kernel))) (show rg 0 8 _ from (rg_andR (rg_c (a := 8) (b := 8) (by decide +kernel)) (by decide +kernel))) (by decide +kernel))) (by decide +kernel)) (by decide +kernel)))
def SPX9_storeDog (S : mSp) : Prop := ∀ (n e : Int) (f0 f : mFn) (g : mGn) (K : mKr) (x1 : Int32), rg 0 255 x1 → rI n e f0 f g → (∀ (f' : mFn) (g' : mGn), rI n e f0 f' g' → K none f' g') → S [.inr 0, .inl x1] f g K
set_option maxRecDepth 100000 in
set_option maxHeartbeats 4000000 in
theorem sfX9_storeDog : SPX9_storeDog spX9_storeDog := by
  intro n e f0 f g K x1 hx1 hI hK
  refine ⟨rfl, fun X hX => ?_⟩
  obtain ⟨S_X9_holdDog, k_X9_holdDog, hX⟩ : ∃ S_X9_holdDog, SPX9_holdDog S_X9_holdDog ∧ mR shM fdX9_storeDog [(125, 0, 0, 12, S_X9_holdDog)] bsX9_storeDog (fun r f g => mRt none r ∧ K r f g) X := ⟨spX9_holdDog, sfX9_holdDog, hX⟩
  have b88 : ∀ (a2 : Int32) (f : mFn) (g : mGn), rg 0 255 a2 → rI n e f0 f g → X 88 [(0, .inr 0), (2, .inl a2)] [] f g := by
    intro a2 f g ha2 hI
    refine hX.1 4 _ rfl _ _ _ _ ?_
    refine And.intro (rg_in (rg_c (a := 96) (b := 96) (by decide +kernel)) (by decide +kernel)) ?_
    refine k_X9_holdDog n e f0 _ _ _  (gI_a1 hI 2 1280 (lo := 0) (hi := 255) (rg_w (c := 0) (d := 255) ha2 (by decide +kernel)) (by decide +kernel)) (fun f13 gf13 hI14 => ?_)
    exact And.intro mRt_v (hK _ _ hI14)
  have b69 : ∀ (a1 : Int32) (a2 : Int32) (f : mFn) (g : mGn), rg 0 255 a1 → rg 0 255 a2 → rI n e f0 f g → X 69 [(0, .inr 0), (1, .inl a1), (2, .inl a2)] [] f g := by
    intro a1 a2 f g ha1 ha2 hI
    refine hX.1 3 _ rfl _ _ _ _ ?_
    refine And.intro (fun c15 => ?_) (fun c15 => ?_)
    · -- 88
      exact hX.2 _ _ [(0, .inr 0), (2, .inl _)] _ _ _ (mWc rfl (mWc rfl mW0)) (b88 _ _ _ (rg_w (c := 0) (d := 255) ha2 (by decide +kernel)) hI)
    · -- on
      exact hX.2 _ _ [(0, .inr 0), (2, .inl _)] _ _ _ (mWc rfl (mWc rfl mW0)) (b88 _ _ _ (rg_w (c := 0) (d := 255) (show rg 0 255 _ from (rg_or (k := 8) ha2 (rg_c (a := 16) (b := 16) (by decide +kernel)) (by decide +kernel))) (by decide +kernel)) (rP0 hI (by decide +kernel)))
  have b23 : ∀ (a1 : Int32) (s0 : Int32) (s1 : Int32) (f : mFn) (g : mGn), rg 0 255 a1 → rg 0 255 s0 → rg 127 255 s1 → rI n e f0 f g → X 23 [(0, .inr 0), (1, .inl a1)] [.inl s1, .inl s0] f g := by
    intro a1 s0 s1 f g ha1 hs0 hs1 hI
    refine hX.1 2 _ rfl _ _ _ _ ?_
    refine And.intro (fun c17 => ?_) (fun c17 => ?_)
    · -- 69
      exact hX.2 _ _ [(0, .inr 0), (1, .inl _), (2, .inl _)] _ _ _ (mWc rfl (mWc rfl (mWc rfl mW0))) (b69 _ _ _ _ (rg_w (c := 0) (d := 255) ha1 (by decide +kernel)) (rg_w (c := 0) (d := 255) (show rg 0 255 _ from (rg_or (k := 8) (show rg 0 191 _ from (rg_andR (rg_c (a := 191) (b := 191) (by decide +kernel)) (by decide +kernel))) (show rg 0 64 _ from (rg_andR (rg_c (a := 64) (b := 64) (by decide +kernel)) (by decide +kernel))) (by decide +kernel))) (by decide +kernel)) hI)
    · -- on
      refine And.intro (fun c18 => ?_) (fun c18 => ?_)
      · -- 69
        exact hX.2 _ _ [(0, .inr 0), (1, .inl _), (2, .inl _)] _ _ _ (mWc rfl (mWc rfl (mWc rfl mW0))) (b69 _ _ _ _ (rg_w (c := 0) (d := 255) ha1 (by decide +kernel)) (rg_w (c := 0) (d := 255) (show rg 0 255 _ from (rg_or (k := 8) (show rg 0 191 _ from (rg_andR (rg_c (a := 191) (b := 191) (by decide +kernel)) (by decide +kernel))) (show rg 0 64 _ from (rg_andR (rg_c (a := 64) (b := 64) (by decide +kernel)) (by decide +kernel))) (by decide +kernel))) (by decide +kernel)) hI)
      · -- on
        exact hX.2 _ _ [(0, .inr 0), (2, .inl _)] _ _ _ (mWc rfl (mWc rfl mW0)) (b88 _ _ _ (rg_w (c := 0) (d := 255) (show rg 0 255 _ from (rg_or (k := 8) (show rg 0 192 _ from (rg_andR (rg_c (a := 192) (b := 192) (by decide +kernel)) (by decide +kernel))) (show rg 0 47 _ from (rg_andR (rg_c (a := 47) (b := 47) (by decide +kernel)) (by decide +kernel))) (by decide +kernel))) (by decide +kernel)) (rP0 hI (by decide +kernel)))
  refine hX.1 0 _ rfl _ _ _ _ ?_
  refine And.intro (rg_in (rg_c (a := 96) (b := 96) (by decide +kernel)) (by decide +kernel)) ?_
  refine And.intro (fun c20 => ?_) (fun c20 => ?_)
  · -- 20
    refine hX.1 1 _ rfl _ _ _ _ ?_
    exact hX.2 _ _ [(0, .inr 0), (1, .inl _)] _ _ _ (mWc rfl (mWc rfl mW0)) (b23 _ _ _ _ _ (rg_w (c := 0) (d := 255) hx1 (by decide +kernel)) (rg_w (c := 0) (d := 255) (gI_g hI 2 3 1280 0 255 rfl (rg_in (rg_c (a := 96) (b := 96) (by decide +kernel)) (by decide +kernel))) (by decide +kernel)) (rg_w (c := 127) (d := 255) (rg_c (a := 255) (b := 255) (by decide +kernel)) (by decide +kernel)) hI)
  · -- on
    exact hX.2 _ _ [(0, .inr 0), (1, .inl _)] _ _ _ (mWc rfl (mWc rfl mW0)) (b23 _ _ _ _ _ (rg_w (c := 0) (d := 255) hx1 (by decide +kernel)) (rg_w (c := 0) (d := 255) (gI_g hI 2 3 1280 0 255 rfl (rg_in (rg_c (a := 96) (b := 96) (by decide +kernel)) (by decide +kernel))) (by decide +kernel)) (rg_w (c := 127) (d := 255) (rg_c (a := 127) (b := 127) (by decide +kernel)) (by decide +kernel)) hI)
def SPX9_store (S : mSp) : Prop := ∀ (n e : Int) (f0 f : mFn) (g : mGn) (K : mKr) (x1 : Int32) (x2 : Int32), rg 0 65535 x1 → rg 0 255 x2 → n + 1 ≤ 300000000 → rI n e f0 f g → (∀ (f' : mFn) (g' : mGn), rI (n + 1) e f0 f' g' → K none f' g') → S [.inr 0, .inl x1, .inl x2] f g K
set_option maxRecDepth 100000 in
set_option maxHeartbeats 4000000 in
theorem sfX9_store : SPX9_store spX9_store := by
  intro n e f0 f g K x1 x2 hx1 hx2 hB hI hK
  refine ⟨rfl, fun X hX => ?_⟩
  obtain ⟨S_X9_holds, k_X9_holds, S_X9_storeRom, k_X9_storeRom, S_X9_storeVectors, k_X9_storeVectors, S_X9_storeFlash, k_X9_storeFlash, S_X9_storeDog, k_X9_storeDog, hX⟩ : ∃ S_X9_holds, SPX9_holds S_X9_holds ∧ ∃ S_X9_storeRom, SPX9_storeRom S_X9_storeRom ∧ ∃ S_X9_storeVectors, SPX9_storeVectors S_X9_storeVectors ∧ ∃ S_X9_storeFlash, SPX9_storeFlash S_X9_storeFlash ∧ ∃ S_X9_storeDog, SPX9_storeDog S_X9_storeDog ∧ mR shM fdX9_store [(144, 1, 1, 0, S_X9_holds), (148, 0, 1, 12, S_X9_storeRom), (151, 0, 1, 12, S_X9_storeVectors), (154, 0, 1, 12, S_X9_storeFlash), (157, 0, 1, 12, S_X9_storeDog)] bsX9_store (fun r f g => mRt none r ∧ K r f g) X := ⟨spX9_holds, sfX9_holds, spX9_storeRom, sfX9_storeRom, spX9_storeVectors, sfX9_storeVectors, spX9_storeFlash, sfX9_storeFlash, spX9_storeDog, sfX9_storeDog, hX⟩
  have b11 : ∀ (f : mFn) (g : mGn), rI n e f0 f g → X 11 [] [] f g := by
    intro f g  hI
    refine hX.1 1 _ rfl _ _ _ _ ?_
    exact And.intro mRt_v (hK _ _ (rM hI (by omega) (by omega)))
  have b352 : ∀ (f : mFn) (g : mGn), rI (n + 1) e f0 f g → X 352 [] [] f g := by
    intro f g  hI
    refine hX.1 17 _ rfl _ _ _ _ ?_
    exact And.intro mRt_v (hK _ _ hI)
  have b170 : ∀ (a1 : Int32) (a2 : Int32) (f : mFn) (g : mGn), rg 64 65 a1 → rg 0 255 a2 → rI n e f0 f g → X 170 [(0, .inr 0), (1, .inl a1), (2, .inl a2)] [] f g := by
    intro a1 a2 f g ha1 ha2 hI
    refine hX.1 7 _ rfl _ _ _ _ ?_
    refine And.intro (rg_in (rg_c (a := 63) (b := 63) (by decide +kernel)) (by decide +kernel)) ?_
    refine And.intro (fun c46 => ?_) (fun c46 => ?_)
    · -- 352
      exact hX.2 _ _ [] _ _ _ mW0 (b352  _ _  (rM hI (by omega) (by omega)))
    · -- on
      refine And.intro (rg_in ha1 (by decide +kernel)) ?_
      exact hX.2 _ _ [] _ _ _ mW0 (b352  _ _  (rM (gI_a1 hI 2 1280 (lo := 0) (hi := 255) (rg_w (c := 0) (d := 255) ha2 (by decide +kernel)) (by decide +kernel)) (by omega) (by omega)))
  have b265 : ∀ (a2 : Int32) (s1 : Int32) (s2 : Int32) (s3 : Int32) (f : mFn) (g : mGn), rg 0 255 a2 → rg 192 192 s1 → rg 0 255 s2 → rg 189 253 s3 → rI n e f0 f g → X 265 [(2, .inl a2)] [.inl s3, .inl s2, .inl s1, .inr 3] f g := by
    intro a2 s1 s2 s3 f g ha2 hs1 hs2 hs3 hI
    refine hX.1 14 _ rfl _ _ _ _ ?_
    refine And.intro (rg_in hs1 (by decide +kernel)) ?_
    exact hX.2 _ _ [] _ _ _ mW0 (b352  _ _  (rM (gI_a1 hI 2 1280 (lo := 0) (hi := 255) (rg_w (c := 0) (d := 255) (show rg 0 255 _ from (rg_or (k := 8) (show rg 0 253 _ from (rg_andR hs3 (by decide +kernel))) (show rg 0 2 _ from (rg_andR (rg_c (a := 2) (b := 2) (by decide +kernel)) (by decide +kernel))) (by decide +kernel))) (by decide +kernel)) (by decide +kernel)) (by omega) (by omega)))
  have b26 : ∀ (a1 : Int32) (a2 : Int32) (f : mFn) (g : mGn), rg 0 1279 a1 → rg 0 255 a2 → rI n e f0 f g → X 26 [(0, .inr 0), (1, .inl a1), (2, .inl a2)] [] f g := by
    intro a1 a2 f g ha1 ha2 hI
    refine hX.1 3 _ rfl _ _ _ _ ?_
    refine And.intro (fun c49 => ?_) (fun c49 => ?_)
    · -- 132
      refine hX.1 4 _ rfl _ _ _ _ ?_
      refine And.intro (rg_in (rg_c (a := 37) (b := 37) (by decide +kernel)) (by decide +kernel)) ?_
      refine And.intro (rg_in (rg_c (a := 37) (b := 37) (by decide +kernel)) (by decide +kernel)) ?_
      exact hX.2 _ _ [] _ _ _ mW0 (b352  _ _  (rM (gI_a1 hI 2 1280 (lo := 0) (hi := 255) (rg_w (c := 0) (d := 255) (show rg 0 255 _ from (rg_xor (k := 8) (gI_g hI 2 3 1280 0 255 rfl (rg_in (rg_c (a := 37) (b := 37) (by decide +kernel)) (by decide +kernel))) ha2 (by decide +kernel))) (by decide +kernel)) (by decide +kernel)) (by omega) (by omega)))
    · -- on
      refine And.intro (fun c51 => ?_) (fun c51 => ?_)
      · -- 146
        refine hX.1 5 _ rfl _ _ _ _ ?_
        refine And.intro (rg_in (rg_c (a := 53) (b := 53) (by decide +kernel)) (by decide +kernel)) ?_
        refine And.intro (rg_in (rg_c (a := 53) (b := 53) (by decide +kernel)) (by decide +kernel)) ?_
        exact hX.2 _ _ [] _ _ _ mW0 (b352  _ _  (rM (gI_a1 hI 2 1280 (lo := 0) (hi := 255) (rg_w (c := 0) (d := 255) (show rg 0 255 _ from (rg_andL (gI_g hI 2 3 1280 0 255 rfl (rg_in (rg_c (a := 53) (b := 53) (by decide +kernel)) (by decide +kernel))) (by decide +kernel))) (by decide +kernel)) (by decide +kernel)) (by omega) (by omega)))
      · -- on
        refine And.intro (fun c53 => ?_) (fun c53 => ?_)
        · -- 162
          refine hX.1 6 _ rfl _ _ _ _ ?_
          refine k_X9_storeRom n e f0 _ _ _ _ (rg_w (c := 0) (d := 255) ha2 (by decide +kernel)) (by omega) hI (fun f55 gf55 hI56 => ?_)
          exact hX.2 _ _ [] _ _ _ mW0 (b352  _ _  hI56)
        · -- on
          refine And.intro (fun c57 => ?_) (fun c57 => ?_)
          · -- 170
            exact hX.2 _ _ [(0, .inr 0), (1, .inl _), (2, .inl _)] _ _ _ (mWc rfl (mWc rfl (mWc rfl mW0))) (b170 _ _ _ _ (rg_w (c := 64) (d := 65) (show rg 64 64 _ from (rg_eq (rg_c (a := 64) (b := 64) (by decide +kernel)) c57)) (by decide +kernel)) (rg_w (c := 0) (d := 255) ha2 (by decide +kernel)) hI)
          · -- on
            refine And.intro (fun c58 => ?_) (fun c58 => ?_)
            · -- 170
              exact hX.2 _ _ [(0, .inr 0), (1, .inl _), (2, .inl _)] _ _ _ (mWc rfl (mWc rfl (mWc rfl mW0))) (b170 _ _ _ _ (rg_w (c := 64) (d := 65) (show rg 65 65 _ from (rg_eq (rg_c (a := 65) (b := 65) (by decide +kernel)) c58)) (by decide +kernel)) (rg_w (c := 0) (d := 255) ha2 (by decide +kernel)) hI)
            · -- on
              refine And.intro (fun c59 => ?_) (fun c59 => ?_)
              · -- 192
                refine hX.1 8 _ rfl _ _ _ _ ?_
                refine And.intro (rg_in (rg_c (a := 84) (b := 84) (by decide +kernel)) (by decide +kernel)) ?_
                refine And.intro (rg_in (rg_c (a := 84) (b := 84) (by decide +kernel)) (by decide +kernel)) ?_
                exact hX.2 _ _ [] _ _ _ mW0 (b352  _ _  (rM (gI_a1 hI 2 1280 (lo := 0) (hi := 255) (rg_w (c := 0) (d := 255) (show rg 0 255 _ from (rg_andR (show rg 0 255 _ from (rg_or (k := 8) ha2 (rg_c (a := 244) (b := 244) (by decide +kernel)) (by decide +kernel))) (by decide +kernel))) (by decide +kernel)) (by decide +kernel)) (by omega) (by omega)))
              · -- on
                refine And.intro (fun c61 => ?_) (fun c61 => ?_)
                · -- 210
                  refine hX.1 9 _ rfl _ _ _ _ ?_
                  refine k_X9_storeVectors n e f0 _ _ _ _ (rg_w (c := 0) (d := 255) ha2 (by decide +kernel)) hI (fun f63 gf63 hI64 => ?_)
                  exact hX.2 _ _ [] _ _ _ mW0 (b352  _ _  (rM hI64 (by omega) (by omega)))
                · -- on
                  refine And.intro (fun c65 => ?_) (fun c65 => ?_)
                  · -- 218
                    refine hX.1 10 _ rfl _ _ _ _ ?_
                    refine k_X9_storeFlash n e f0 _ _ _ _ (rg_w (c := 0) (d := 255) ha2 (by decide +kernel)) hI (fun f67 gf67 hI68 => ?_)
                    exact hX.2 _ _ [] _ _ _ mW0 (b352  _ _  (rM hI68 (by omega) (by omega)))
                  · -- on
                    refine And.intro (fun c69 => ?_) (fun c69 => ?_)
                    · -- 226
                      refine hX.1 11 _ rfl _ _ _ _ ?_
                      refine k_X9_storeDog n e f0 _ _ _ _ (rg_w (c := 0) (d := 255) ha2 (by decide +kernel)) hI (fun f71 gf71 hI72 => ?_)
                      exact hX.2 _ _ [] _ _ _ mW0 (b352  _ _  (rM hI72 (by omega) (by omega)))
                    · -- on
                      refine And.intro (fun c73 => ?_) (fun c73 => ?_)
                      · -- 234
                        refine hX.1 12 _ rfl _ _ _ _ ?_
                        refine And.intro (rg_in (rg_c (a := 192) (b := 192) (by decide +kernel)) (by decide +kernel)) ?_
                        refine And.intro (fun c74 => ?_) (fun c74 => ?_)
                        · -- 262
                          refine hX.1 13 _ rfl _ _ _ _ ?_
                          exact hX.2 _ _ [(2, .inl _)] _ _ _ (mWc rfl mW0) (b265 _ _ _ _ _ _ (rg_w (c := 0) (d := 255) ha2 (by decide +kernel)) (rg_w (c := 192) (d := 192) (rg_c (a := 192) (b := 192) (by decide +kernel)) (by decide +kernel)) (rg_w (c := 0) (d := 255) (gI_g hI 2 3 1280 0 255 rfl (rg_in (rg_c (a := 192) (b := 192) (by decide +kernel)) (by decide +kernel))) (by decide +kernel)) (rg_w (c := 189) (d := 253) (rg_c (a := 253) (b := 253) (by decide +kernel)) (by decide +kernel)) hI)
                        · -- on
                          exact hX.2 _ _ [(2, .inl _)] _ _ _ (mWc rfl mW0) (b265 _ _ _ _ _ _ (rg_w (c := 0) (d := 255) ha2 (by decide +kernel)) (rg_w (c := 192) (d := 192) (rg_c (a := 192) (b := 192) (by decide +kernel)) (by decide +kernel)) (rg_w (c := 0) (d := 255) (gI_g hI 2 3 1280 0 255 rfl (rg_in (rg_c (a := 192) (b := 192) (by decide +kernel)) (by decide +kernel))) (by decide +kernel)) (rg_w (c := 189) (d := 253) (rg_c (a := 189) (b := 189) (by decide +kernel)) (by decide +kernel)) hI)
                      · -- on
                        refine And.intro (fun c75 => ?_) (fun c75 => ?_)
                        · -- 274
                          refine hX.1 15 _ rfl _ _ _ _ ?_
                          refine And.intro (fun c76 => ?_) (fun c76 => ?_)
                          · -- 352
                            exact hX.2 _ _ [] _ _ _ mW0 (b352  _ _  (rM hI (by omega) (by omega)))
                          · -- on
                            refine And.intro (rg_in (rg_c (a := 192) (b := 192) (by decide +kernel)) (by decide +kernel)) ?_
                            refine And.intro (rg_in (rg_c (a := 192) (b := 192) (by decide +kernel)) (by decide +kernel)) ?_
                            exact hX.2 _ _ [] _ _ _ mW0 (b352  _ _  (rM (gI_a1 (rW0 hI) 2 1280 (lo := 0) (hi := 255) (rg_w (c := 0) (d := 255) (show rg 0 255 _ from (rg_or (k := 8) (gI_g hI 2 3 1280 0 255 rfl (rg_in (rg_c (a := 192) (b := 192) (by decide +kernel)) (by decide +kernel))) (rg_c (a := 32) (b := 32) (by decide +kernel)) (by decide +kernel))) (by decide +kernel)) (by decide +kernel)) (by omega) (by omega)))
                        · -- on
                          refine And.intro (fun c79 => ?_) (fun c79 => ?_)
                          · -- 302
                            refine hX.1 16 _ rfl _ _ _ _ ?_
                            refine And.intro (rg_in (rg_c (a := 193) (b := 193) (by decide +kernel)) (by decide +kernel)) ?_
                            refine And.intro (fun c80 => ?_) (fun c80 => ?_)
                            · -- 352
                              exact hX.2 _ _ [] _ _ _ mW0 (b352  _ _  (rM hI (by omega) (by omega)))
                            · -- on
                              refine And.intro (rg_in (rg_c (a := 192) (b := 192) (by decide +kernel)) (by decide +kernel)) ?_
                              refine And.intro (fun c81 => ?_) (fun c81 => ?_)
                              · -- 352
                                exact hX.2 _ _ [] _ _ _ mW0 (b352  _ _  (rM hI (by omega) (by omega)))
                              · -- on
                                refine And.intro (rg_in (rg_c (a := 192) (b := 192) (by decide +kernel)) (by decide +kernel)) ?_
                                refine And.intro (rg_in (rg_c (a := 192) (b := 192) (by decide +kernel)) (by decide +kernel)) ?_
                                exact hX.2 _ _ [] _ _ _ mW0 (b352  _ _  (gI_a1 (rW1 hI (rg_w (c := 0) (d := 255) ha2 (by decide +kernel)) (by omega)) 2 1280 (lo := 0) (hi := 255) (rg_w (c := 0) (d := 255) (show rg 0 223 _ from (rg_andR (rg_c (a := 223) (b := 223) (by decide +kernel)) (by decide +kernel))) (by decide +kernel)) (by decide +kernel)))
                          · -- on
                            exact hX.2 _ _ [] _ _ _ mW0 (b352  _ _  (rM hI (by omega) (by omega)))
  refine hX.1 0 _ rfl _ _ _ _ ?_
  refine And.intro (fun c84 => ?_) (fun c84 => ?_)
  · -- 11
    exact (rg_no (show rg 0 (-1) _ from (rg_lt hx1 (rg_c (a := 0) (b := 0) (by decide +kernel)) c84 (by decide +kernel))) (by decide +kernel)).elim
  · -- on
    refine And.intro (fun c85 => ?_) (fun c85 => ?_)
    · -- 12
      refine hX.1 2 _ rfl _ _ _ _ ?_
      refine k_X9_holds n e f0 _ _ _ _ (rg_w (c := 0) (d := 1279) (show rg 0 1279 _ from (rg_lt hx1 (rg_c (a := 1280) (b := 1280) (by decide +kernel)) c85 (by decide +kernel))) (by decide +kernel)) hI (fun y86 hy86 => ?_)
      refine And.intro (fun c89 => ?_) (fun c89 => ?_)
      · -- 26
        exact hX.2 _ _ [(0, .inr 0), (1, .inl _), (2, .inl _)] _ _ _ (mWc rfl (mWc rfl (mWc rfl mW0))) (b26 _ _ _ _ (rg_w (c := 0) (d := 1279) (show rg 0 1279 _ from (rg_lt hx1 (rg_c (a := 1280) (b := 1280) (by decide +kernel)) c85 (by decide +kernel))) (by decide +kernel)) (rg_w (c := 0) (d := 255) hx2 (by decide +kernel)) hI)
      · -- on
        refine And.intro (rg_in (show rg 0 1279 _ from (rg_lt hx1 (rg_c (a := 1280) (b := 1280) (by decide +kernel)) c85 (by decide +kernel))) (by decide +kernel)) ?_
        exact hX.2 _ _ [(0, .inr 0), (1, .inl _), (2, .inl _)] _ _ _ (mWc rfl (mWc rfl (mWc rfl mW0))) (b26 _ _ _ _ (rg_w (c := 0) (d := 1279) (show rg 0 1279 _ from (rg_lt hx1 (rg_c (a := 1280) (b := 1280) (by decide +kernel)) c85 (by decide +kernel))) (by decide +kernel)) (rg_w (c := 0) (d := 255) hx2 (by decide +kernel)) (gI_a1 hI 2 1280 (lo := 0) (hi := 255) (rg_w (c := 0) (d := 255) hx2 (by decide +kernel)) (by decide +kernel)))
    · -- on
      exact hX.2 _ _ [] _ _ _ mW0 (b11  _ _  hI)
def SPX9_showReceived (S : mSp) : Prop := ∀ (n e : Int) (f0 f : mFn) (g : mGn) (K : mKr), rI n e f0 f g → (∀ (f' : mFn) (g' : mGn), rI n e f0 f' g' → K none f' g') → S [.inr 0] f g K
set_option maxRecDepth 100000 in
set_option maxHeartbeats 4000000 in
theorem sfX9_showReceived : SPX9_showReceived spX9_showReceived := by
  intro n e f0 f g K   hI hK
  refine ⟨rfl, fun X hX => ?_⟩
  have b32 : ∀ (s1 : Int32) (s2 : Int32) (s3 : Int32) (f : mFn) (g : mGn), rg 192 192 s1 → rg 0 127 s2 → rg 0 128 s3 → rI n e f0 f g → X 32 [] [.inl s3, .inl s2, .inl s1, .inr 3] f g := by
    intro s1 s2 s3 f g hs1 hs2 hs3 hI
    refine hX.1 2 _ rfl _ _ _ _ ?_
    refine And.intro (rg_in hs1 (by decide +kernel)) ?_
    exact And.intro mRt_v (hK _ _ (gI_a1 hI 2 1280 (lo := 0) (hi := 255) (rg_w (c := 0) (d := 255) (show rg 0 255 _ from (rg_or (k := 8) hs2 hs3 (by decide +kernel))) (by decide +kernel)) (by decide +kernel)))
  refine hX.1 0 _ rfl _ _ _ _ ?_
  refine And.intro (rg_in (rg_c (a := 192) (b := 192) (by decide +kernel)) (by decide +kernel)) ?_
  refine And.intro (fun c4 => ?_) (fun c4 => ?_)
  · -- 31
    refine hX.1 1 _ rfl _ _ _ _ ?_
    exact hX.2 _ _ [] _ _ _ mW0 (b32 _ _ _ _ _ (rg_w (c := 192) (d := 192) (rg_c (a := 192) (b := 192) (by decide +kernel)) (by decide +kernel)) (rg_w (c := 0) (d := 127) (show rg 0 127 _ from (rg_andR (rg_c (a := 127) (b := 127) (by decide +kernel)) (by decide +kernel))) (by decide +kernel)) (rg_w (c := 0) (d := 128) (rg_c (a := 0) (b := 0) (by decide +kernel)) (by decide +kernel)) hI)
  · -- on
    exact hX.2 _ _ [] _ _ _ mW0 (b32 _ _ _ _ _ (rg_w (c := 192) (d := 192) (rg_c (a := 192) (b := 192) (by decide +kernel)) (by decide +kernel)) (rg_w (c := 0) (d := 127) (show rg 0 127 _ from (rg_andR (rg_c (a := 127) (b := 127) (by decide +kernel)) (by decide +kernel))) (by decide +kernel)) (rg_w (c := 0) (d := 128) (rg_c (a := 128) (b := 128) (by decide +kernel)) (by decide +kernel)) hI)
def SPX9_load (S : mSp) : Prop := ∀ (n e : Int) (f0 f : mFn) (g : mGn) (K : mKr) (x1 : Int32), rg 0 65535 x1 → rI n e f0 f g → (∀ (y : Int32) (f' : mFn) (g' : mGn), rg 0 255 y → rI n e f0 f' g' → K (some (.inl y)) f' g') → S [.inr 0, .inl x1] f g K
set_option maxRecDepth 100000 in
set_option maxHeartbeats 4000000 in
theorem sfX9_load : SPX9_load spX9_load := by
  intro n e f0 f g K x1 hx1 hI hK
  refine ⟨rfl, fun X hX => ?_⟩
  obtain ⟨S_X9_seen, k_X9_seen, S_X9_showReceived, k_X9_showReceived, hX⟩ : ∃ S_X9_seen, SPX9_seen S_X9_seen ∧ ∃ S_X9_showReceived, SPX9_showReceived S_X9_showReceived ∧ mR shM fdX9_load [(134, 0, 1, 12, S_X9_seen), (141, 0, 0, 12, S_X9_showReceived)] bsX9_load (fun r f g => mRt (some .int) r ∧ K r f g) X := ⟨spX9_seen, sfX9_seen, spX9_showReceived, sfX9_showReceived, hX⟩
  have b56 : ∀ (a2 : Int32) (f : mFn) (g : mGn), rg 0 255 a2 → rI n e f0 f g → X 56 [(2, .inl a2)] [] f g := by
    intro a2 f g ha2 hI
    refine hX.1 2 _ rfl _ _ _ _ ?_
    exact And.intro mRt_i (hK _ _ _ (rg_w (c := 0) (d := 255) ha2 (by decide +kernel)) hI)
  have b38 : ∀ (a2 : Int32) (f : mFn) (g : mGn), rg 0 255 a2 → rI n e f0 f g → X 38 [(0, .inr 0), (2, .inl a2)] [] f g := by
    intro a2 f g ha2 hI
    refine hX.1 1 _ rfl _ _ _ _ ?_
    refine And.intro (rg_in (rg_c (a := 192) (b := 192) (by decide +kernel)) (by decide +kernel)) ?_
    refine And.intro (rg_in (rg_c (a := 192) (b := 192) (by decide +kernel)) (by decide +kernel)) ?_
    refine k_X9_showReceived n e f0 _ _ _  (gI_a1 hI 2 1280 (lo := 0) (hi := 255) (rg_w (c := 0) (d := 255) (show rg 0 247 _ from (rg_andR (rg_c (a := 247) (b := 247) (by decide +kernel)) (by decide +kernel))) (by decide +kernel)) (by decide +kernel)) (fun f14 gf14 hI15 => ?_)
    exact hX.2 _ _ [(2, .inl _)] _ _ _ (mWc rfl mW0) (b56 _ _ _ (rg_w (c := 0) (d := 255) ha2 (by decide +kernel)) hI15)
  refine hX.1 0 _ rfl _ _ _ _ ?_
  refine k_X9_seen n e f0 _ _ _ _ (rg_w (c := 0) (d := 65535) hx1 (by decide +kernel)) hI (fun y16 hy16 => ?_)
  refine And.intro (fun c19 => ?_) (fun c19 => ?_)
  · -- 56
    exact hX.2 _ _ [(2, .inl _)] _ _ _ (mWc rfl mW0) (b56 _ _ _ (rg_w (c := 0) (d := 255) hy16 (by decide +kernel)) hI)
  · -- on
    refine And.intro (fun c20 => ?_) (fun c20 => ?_)
    · -- 38
      exact hX.2 _ _ [(0, .inr 0), (2, .inl _)] _ _ _ (mWc rfl (mWc rfl mW0)) (b38 _ _ _ (rg_w (c := 0) (d := 255) hy16 (by decide +kernel)) hI)
    · -- on
      exact hX.2 _ _ [(0, .inr 0), (2, .inl _)] _ _ _ (mWc rfl (mWc rfl mW0)) (b38 _ _ _ (rg_w (c := 0) (d := 255) hy16 (by decide +kernel)) (rP1 11 (rg_w (c := 0) (d := 2) (show rg 0 1 _ from (rg_sub (show rg 1 2 _ from (rg_gt (gI_s hI 11 32 0 2 rfl) (rg_c (a := 0) (b := 0) (by decide +kernel)) (rg_nle c20) (by decide +kernel))) (rg_c (a := 1) (b := 1) (by decide +kernel)) (by decide +kernel))) (by decide +kernel)) (rP1 9 (rg_w (c := 0) (d := 255) (gI_s hI 10 31 0 255 rfl) (by decide +kernel)) hI (by decide +kernel)) (by decide +kernel)))
def SPX9_displaced (S : mSp) : Prop := ∀ (n e : Int) (f0 f : mFn) (g : mGn) (K : mKr) (x1 : Int32), rg 0 65535 x1 → n + 1 ≤ 300000000 → rI n e f0 f g → (∀ (y : Int32) (f' : mFn) (g' : mGn), rg 2 2 y → rI (n + 1) e f0 f' g' → K (some (.inl y)) f' g') → S [.inr 0, .inl x1] f g K
set_option maxRecDepth 100000 in
set_option maxHeartbeats 4000000 in
theorem sfX9_displaced : SPX9_displaced spX9_displaced := by
  intro n e f0 f g K x1 hx1 hB hI hK
  refine ⟨rfl, fun X hX => ?_⟩
  obtain ⟨S_X9_pointer, k_X9_pointer, S_X9_store, k_X9_store, S_X9_load, k_X9_load, hX⟩ : ∃ S_X9_pointer, SPX9_pointer S_X9_pointer ∧ ∃ S_X9_store, SPX9_store S_X9_store ∧ ∃ S_X9_load, SPX9_load S_X9_load ∧ mR shM fdX9_displaced [(231, 0, 1, 12, S_X9_pointer), (234, 0, 2, 12, S_X9_store), (241, 0, 1, 12, S_X9_load)] bsX9_displaced (fun r f g => mRt (some .int) r ∧ K r f g) X := ⟨spX9_pointer, sfX9_pointer, spX9_store, sfX9_store, spX9_load, sfX9_load, hX⟩
  have b88 : ∀ (f : mFn) (g : mGn), rI (n + 1) e f0 f g → X 88 [] [] f g := by
    intro f g  hI
    refine hX.1 4 _ rfl _ _ _ _ ?_
    exact And.intro mRt_i (hK _ _ _ (rg_w (c := 2) (d := 2) (rg_c (a := 2) (b := 2) (by decide +kernel)) (by decide +kernel)) hI)
  have b36 : ∀ (a1 : Int32) (a2 : Int32) (s1 : Int32) (f : mFn) (g : mGn), rg 0 65535 a1 → rg 0 63 a2 → rg 28 30 s1 → rI n e f0 f g → X 36 [(0, .inr 0), (1, .inl a1), (2, .inl a2)] [.inl s1, .inr 0] f g := by
    intro a1 a2 s1 f g ha1 ha2 hs1 hI
    refine hX.1 2 _ rfl _ _ _ _ ?_
    refine k_X9_pointer n e f0 _ _ _ _ (rg_w (c := 0) (d := 93) hs1 (by decide +kernel)) hI (fun y13 hy13 => ?_)
    refine And.intro (fun c16 => ?_) (fun c16 => ?_)
    · -- 76
      refine hX.1 3 _ rfl _ _ _ _ ?_
      refine k_X9_load n e f0 _ _ _ _ (rg_w (c := 0) (d := 65535) (show rg 0 65535 _ from (rg_andR (rg_c (a := 65535) (b := 65535) (by decide +kernel)) (by decide +kernel))) (by decide +kernel)) hI (fun y17 f18 gf18 hy17 hI19 => ?_)
      refine And.intro (rg_in (show rg 0 31 _ from (rg_andR (rg_c (a := 31) (b := 31) (by decide +kernel)) (by decide +kernel))) (by decide +kernel)) ?_
      exact hX.2 _ _ [] _ _ _ mW0 (b88  _ _  (rM (gI_a1 hI19 2 1280 (lo := 0) (hi := 255) (rg_w (c := 0) (d := 255) hy17 (by decide +kernel)) (by decide +kernel)) (by omega) (by omega)))
    · -- on
      refine And.intro (rg_in (show rg 0 31 _ from (rg_andR (rg_c (a := 31) (b := 31) (by decide +kernel)) (by decide +kernel))) (by decide +kernel)) ?_
      refine k_X9_store n e f0 _ _ _ _ _ (rg_w (c := 0) (d := 65535) (show rg 0 65535 _ from (rg_andR (rg_c (a := 65535) (b := 65535) (by decide +kernel)) (by decide +kernel))) (by decide +kernel)) (rg_w (c := 0) (d := 255) (gI_g hI 2 3 1280 0 255 rfl (rg_in (show rg 0 31 _ from (rg_andR (rg_c (a := 31) (b := 31) (by decide +kernel)) (by decide +kernel))) (by decide +kernel))) (by decide +kernel)) (by omega) hI (fun f22 gf22 hI23 => ?_)
      exact hX.2 _ _ [] _ _ _ mW0 (b88  _ _  hI23)
  refine hX.1 0 _ rfl _ _ _ _ ?_
  refine And.intro (fun c24 => ?_) (fun c24 => ?_)
  · -- 34
    refine hX.1 1 _ rfl _ _ _ _ ?_
    exact hX.2 _ _ [(0, .inr 0), (1, .inl _), (2, .inl _)] _ _ _ (mWc rfl (mWc rfl (mWc rfl mW0))) (b36 _ _ _ _ _ (rg_w (c := 0) (d := 65535) hx1 (by decide +kernel)) (rg_w (c := 0) (d := 63) (show rg 0 63 _ from (rg_or (k := 6) (show rg 0 31 _ from (rg_or (k := 5) (show rg 0 7 _ from (rg_andR (rg_c (a := 7) (b := 7) (by decide +kernel)) (by decide +kernel))) (show rg 0 24 _ from (rg_andR (rg_c (a := 24) (b := 24) (by decide +kernel)) (by decide +kernel))) (by decide +kernel))) (show rg 0 32 _ from (rg_andR (rg_c (a := 32) (b := 32) (by decide +kernel)) (by decide +kernel))) (by decide +kernel))) (by decide +kernel)) (rg_w (c := 28) (d := 30) (rg_c (a := 30) (b := 30) (by decide +kernel)) (by decide +kernel)) hI)
  · -- on
    exact hX.2 _ _ [(0, .inr 0), (1, .inl _), (2, .inl _)] _ _ _ (mWc rfl (mWc rfl (mWc rfl mW0))) (b36 _ _ _ _ _ (rg_w (c := 0) (d := 65535) hx1 (by decide +kernel)) (rg_w (c := 0) (d := 63) (show rg 0 63 _ from (rg_or (k := 6) (show rg 0 31 _ from (rg_or (k := 5) (show rg 0 7 _ from (rg_andR (rg_c (a := 7) (b := 7) (by decide +kernel)) (by decide +kernel))) (show rg 0 24 _ from (rg_andR (rg_c (a := 24) (b := 24) (by decide +kernel)) (by decide +kernel))) (by decide +kernel))) (show rg 0 32 _ from (rg_andR (rg_c (a := 32) (b := 32) (by decide +kernel)) (by decide +kernel))) (by decide +kernel))) (by decide +kernel)) (rg_w (c := 28) (d := 30) (rg_c (a := 28) (b := 28) (by decide +kernel)) (by decide +kernel)) hI)
def SPX9_restart (S : mSp) : Prop := ∀ (n e : Int) (f0 f : mFn) (g : mGn) (K : mKr) (x1 : Int32), rg 1 8 x1 → rI n e f0 f g → (∀ (f' : mFn) (g' : mGn), rI n e f0 f' g' → K none f' g') → S [.inr 0, .inl x1] f g K
set_option maxRecDepth 100000 in
set_option maxHeartbeats 4000000 in
theorem sfX9_restart : SPX9_restart spX9_restart := by
  intro n e f0 f g K x1 hx1 hI hK
  refine ⟨rfl, fun X hX => ?_⟩
  obtain ⟨S_X9_clearBuffer, k_X9_clearBuffer, S_X9_holdDog, k_X9_holdDog, hX⟩ : ∃ S_X9_clearBuffer, SPX9_clearBuffer S_X9_clearBuffer ∧ ∃ S_X9_holdDog, SPX9_holdDog S_X9_holdDog ∧ mR shM fdX9_restart [(122, 0, 0, 12, S_X9_clearBuffer), (125, 0, 0, 12, S_X9_holdDog)] bsX9_restart (fun r f g => mRt none r ∧ K r f g) X := ⟨spX9_clearBuffer, sfX9_clearBuffer, spX9_holdDog, sfX9_holdDog, hX⟩
  have b76 : ∀ (s1 : Int32) (f : mFn) (g : mGn), rg 0 1536 s1 → rI n e f0 f g → X 76 [(0, .inr 0)] [.inl s1, .inr 0] f g := by
    intro s1 f g hs1 hI
    refine hX.1 6 _ rfl _ _ _ _ ?_
    refine And.intro (rg_01 (rg_c (a := 0) (b := 0) (by decide +kernel)) (by decide +kernel)) ?_
    refine And.intro (rg_01 (rg_c (a := 0) (b := 0) (by decide +kernel)) (by decide +kernel)) ?_
    refine k_X9_clearBuffer n e f0 _ _ _  (rP1 11 (rg_w (c := 0) (d := 2) (rg_c (a := 0) (b := 0) (by decide +kernel)) (by decide +kernel)) (rP0 (rS0 (rW0 (rP0 (rP0 (rP0 (rP0 (rP0 (rP0 (rP0 (rP0 (rP0 (rP0 (rP1 5 (rg_w (c := 0) (d := 2047) hs1 (by decide +kernel)) hI (by decide +kernel)) (by decide +kernel)) (by decide +kernel)) (by decide +kernel)) (by decide +kernel)) (by decide +kernel)) (by decide +kernel)) (by decide +kernel)) (by decide +kernel)) (by decide +kernel)) (by decide +kernel)))) (by decide +kernel)) (by decide +kernel)) (fun f44 gf44 hI45 => ?_)
    refine k_X9_holdDog n e f0 _ _ _  hI45 (fun f47 gf47 hI48 => ?_)
    exact And.intro mRt_v (hK _ _ hI48)
  have b59 : ∀ (s1 : Int32) (s2 : Int32) (f : mFn) (g : mGn), rg 84 84 s1 → rg 0 255 s2 → rI n e f0 f g → X 59 [(0, .inr 0)] [.inl s2, .inl s1, .inr 3] f g := by
    intro s1 s2 f g hs1 hs2 hI
    refine hX.1 4 _ rfl _ _ _ _ ?_
    refine And.intro (rg_in hs1 (by decide +kernel)) ?_
    refine And.intro (fun c50 => ?_) (fun c50 => ?_)
    · -- 75
      refine hX.1 5 _ rfl _ _ _ _ ?_
      exact hX.2 _ _ [(0, .inr 0)] _ _ _ (mWc rfl mW0) (b76 _ _ _ (rg_w (c := 0) (d := 1536) (rg_c (a := 0) (b := 0) (by decide +kernel)) (by decide +kernel)) (gI_a1 hI 2 1280 (lo := 0) (hi := 255) (rg_w (c := 0) (d := 255) hs2 (by decide +kernel)) (by decide +kernel)))
    · -- on
      exact hX.2 _ _ [(0, .inr 0)] _ _ _ (mWc rfl mW0) (b76 _ _ _ (rg_w (c := 0) (d := 1536) (rg_c (a := 1536) (b := 1536) (by decide +kernel)) (by decide +kernel)) (gI_a1 hI 2 1280 (lo := 0) (hi := 255) (rg_w (c := 0) (d := 255) hs2 (by decide +kernel)) (by decide +kernel)))
  have r11 : ∀ (t : Nat), ∀ (a1 : Int32) (a2 : Int32) (a3 : Int32) (f : mFn) (g : mGn), rg 1 8 a1 → rg 0 255 a2 → rg 32 256 a3 → rI n e f0 f g → (256 - Int32.toInt a3).toNat < t → X 11 [(0, .inr 0), (1, .inl a1), (2, .inl a2), (3, .inl a3)] [] f g := by
    intro t
    induction t with
    | zero => intro a1 a2 a3 f g ha1 ha2 ha3 hI hm; exact absurd hm (Nat.not_lt_zero _)
    | succ t ih =>
      intro a1 a2 a3 f g ha1 ha2 ha3 hI hm
      refine hX.1 1 _ rfl _ _ _ _ ?_
      refine And.intro (fun c51 => ?_) (fun c51 => ?_)
      · -- 31
        refine hX.1 2 _ rfl _ _ _ _ ?_
        refine And.intro (rg_in (rg_c (a := 192) (b := 192) (by decide +kernel)) (by decide +kernel)) ?_
        refine And.intro (fun c53 => ?_) (fun c53 => ?_)
        · -- 56
          refine hX.1 3 _ rfl _ _ _ _ ?_
          exact hX.2 _ _ [(0, .inr 0)] _ _ _ (mWc rfl mW0) (b59 _ _ _ _ (rg_w (c := 84) (d := 84) (rg_c (a := 84) (b := 84) (by decide +kernel)) (by decide +kernel)) (rg_w (c := 0) (d := 255) (show rg 0 255 _ from (rg_or (k := 8) ha2 (show rg 2 8 _ from (rg_neL ha1 (rg_c (a := 1) (b := 1) (by decide +kernel)) c53 (by decide +kernel))) (by decide +kernel))) (by decide +kernel)) (gI_a1 hI 2 1280 (lo := 0) (hi := 255) (rg_w (c := 0) (d := 255) (rg_c (a := 32) (b := 32) (by decide +kernel)) (by decide +kernel)) (by decide +kernel)))
        · -- on
          exact hX.2 _ _ [(0, .inr 0)] _ _ _ (mWc rfl mW0) (b59 _ _ _ _ (rg_w (c := 84) (d := 84) (rg_c (a := 84) (b := 84) (by decide +kernel)) (by decide +kernel)) (rg_w (c := 0) (d := 255) (rg_c (a := 1) (b := 1) (by decide +kernel)) (by decide +kernel)) (gI_a1 hI 2 1280 (lo := 0) (hi := 255) (rg_w (c := 0) (d := 255) (rg_c (a := 32) (b := 32) (by decide +kernel)) (by decide +kernel)) (by decide +kernel)))
      · -- on
        refine And.intro (rg_in (show rg 32 255 _ from (rg_lt ha3 (rg_c (a := 256) (b := 256) (by decide +kernel)) (rg_nle c51) (by decide +kernel))) (by decide +kernel)) ?_
        exact hX.2 _ _ [(0, .inr 0), (1, .inl _), (2, .inl _), (3, .inl _)] _ _ _ (mWc rfl (mWc rfl (mWc rfl (mWc rfl mW0)))) (ih _ _ _ _ _ (rg_w (c := 1) (d := 8) ha1 (by decide +kernel)) (rg_w (c := 0) (d := 255) ha2 (by decide +kernel)) (rg_w (c := 32) (d := 256) (show rg 33 256 _ from (rg_add (show rg 32 255 _ from (rg_lt ha3 (rg_c (a := 256) (b := 256) (by decide +kernel)) (rg_nle c51) (by decide +kernel))) (rg_c (a := 1) (b := 1) (by decide +kernel)) (by decide +kernel))) (by decide +kernel)) (gI_a1 hI 2 1280 (lo := 0) (hi := 255) (rg_w (c := 0) (d := 255) (rg_c (a := 0) (b := 0) (by decide +kernel)) (by decide +kernel)) (by decide +kernel)) (lp_m (N := 256) (rg_w (c := (-2147483648)) (d := 255) (show rg 32 255 _ from (rg_lt ha3 (rg_c (a := 256) (b := 256) (by decide +kernel)) (rg_nle c51) (by decide +kernel))) (by decide +kernel)) hm))
  have b11 : ∀ (a1 : Int32) (a2 : Int32) (a3 : Int32) (f : mFn) (g : mGn), rg 1 8 a1 → rg 0 255 a2 → rg 32 256 a3 → rI n e f0 f g → X 11 [(0, .inr 0), (1, .inl a1), (2, .inl a2), (3, .inl a3)] [] f g := by
    intro a1 a2 a3 f g ha1 ha2 ha3 hI
    exact r11 _ _ _ _ _ _ ha1 ha2 ha3 hI (Nat.lt_succ_self _)
  refine hX.1 0 _ rfl _ _ _ _ ?_
  refine And.intro (rg_in (rg_c (a := 84) (b := 84) (by decide +kernel)) (by decide +kernel)) ?_
  exact hX.2 _ _ [(0, .inr 0), (1, .inl _), (2, .inl _), (3, .inl _)] _ _ _ (mWc rfl (mWc rfl (mWc rfl (mWc rfl mW0)))) (b11 _ _ _ _ _ (rg_w (c := 1) (d := 8) hx1 (by decide +kernel)) (rg_w (c := 0) (d := 255) (gI_g hI 2 3 1280 0 255 rfl (rg_in (rg_c (a := 84) (b := 84) (by decide +kernel)) (by decide +kernel))) (by decide +kernel)) (rg_w (c := 32) (d := 256) (rg_c (a := 32) (b := 32) (by decide +kernel)) (by decide +kernel)) hI)
def SPX9_dog (S : mSp) : Prop := ∀ (n e : Int) (f0 f : mFn) (g : mGn) (K : mKr), rI n e f0 f g → (∀ (y : Int32) (f' : mFn) (g' : mGn), rg 0 1 y → rI n e f0 f' g' → K (some (.inl y)) f' g') → S [.inr 0] f g K
set_option maxRecDepth 100000 in
set_option maxHeartbeats 4000000 in
theorem sfX9_dog : SPX9_dog spX9_dog := by
  intro n e f0 f g K   hI hK
  refine ⟨rfl, fun X hX => ?_⟩
  obtain ⟨S_X9_restart, k_X9_restart, hX⟩ : ∃ S_X9_restart, SPX9_restart S_X9_restart ∧ mR shM fdX9_dog [(56, 0, 1, 12, S_X9_restart)] bsX9_dog (fun r f g => mRt (some .boolean) r ∧ K r f g) X := ⟨spX9_restart, sfX9_restart, hX⟩
  have b73 : ∀ (s0 : Int32) (s1 : Int32) (s2 : Int32) (f : mFn) (g : mGn), rg 4096 4096 s1 → rg 0 11 s2 → rI n e f0 f g → X 73 [(0, .inr 0)] [.inl s2, .inl s1, .inl s0] f g := by
    intro s0 s1 s2 f g hs1 hs2 hI
    refine hX.1 3 _ rfl _ _ _ _ ?_
    refine And.intro (fun c13 => ?_) (fun c13 => ?_)
    · -- 79
      refine hX.1 4 _ rfl _ _ _ _ ?_
      refine And.intro (rg_in (rg_c (a := 96) (b := 96) (by decide +kernel)) (by decide +kernel)) ?_
      refine And.intro (fun c15 => ?_) (fun c15 => ?_)
      · -- 112
        refine hX.1 5 _ rfl _ _ _ _ ?_
        refine k_X9_restart n e f0 _ _ _ _ (rg_w (c := 1) (d := 8) (rg_c (a := 8) (b := 8) (by decide +kernel)) (by decide +kernel)) (rP0 (rP0 hI (by decide +kernel)) (by decide +kernel)) (fun f18 gf18 hI19 => ?_)
        exact And.intro (mRt_z (rg_01 (rg_c (a := 0) (b := 0) (by decide +kernel)) (by decide +kernel))) (hK _ _ _ (rg_w (c := 0) (d := 1) (rg_c (a := 0) (b := 0) (by decide +kernel)) (by decide +kernel)) hI19)
      · -- on
        refine And.intro (rg_in (rg_c (a := 96) (b := 96) (by decide +kernel)) (by decide +kernel)) ?_
        refine And.intro (rg_in (rg_c (a := 96) (b := 96) (by decide +kernel)) (by decide +kernel)) ?_
        exact And.intro (mRt_z (rg_01 (rg_c (a := 1) (b := 1) (by decide +kernel)) (by decide +kernel))) (hK _ _ _ (rg_w (c := 0) (d := 1) (rg_c (a := 1) (b := 1) (by decide +kernel)) (by decide +kernel)) (gI_a1 (rP0 hI (by decide +kernel)) 2 1280 (lo := 0) (hi := 255) (rg_w (c := 0) (d := 255) (show rg 0 255 _ from (rg_or (k := 8) (gI_g hI 2 3 1280 0 255 rfl (rg_in (rg_c (a := 96) (b := 96) (by decide +kernel)) (by decide +kernel))) (rg_c (a := 128) (b := 128) (by decide +kernel)) (by decide +kernel))) (by decide +kernel)) (by decide +kernel)))
    · -- on
      exact And.intro (mRt_z (rg_01 (rg_c (a := 1) (b := 1) (by decide +kernel)) (by decide +kernel))) (hK _ _ _ (rg_w (c := 0) (d := 1) (rg_c (a := 1) (b := 1) (by decide +kernel)) (by decide +kernel)) hI)
  refine hX.1 0 _ rfl _ _ _ _ ?_
  refine And.intro (rg_in (rg_c (a := 96) (b := 96) (by decide +kernel)) (by decide +kernel)) ?_
  refine And.intro (fun c21 => ?_) (fun c21 => ?_)
  · -- 20
    refine hX.1 1 _ rfl _ _ _ _ ?_
    refine And.intro (rg_in (rg_c (a := 96) (b := 96) (by decide +kernel)) (by decide +kernel)) ?_
    refine And.intro (rg_in (rg_c (a := 96) (b := 96) (by decide +kernel)) (by decide +kernel)) ?_
    refine And.intro (fun c23 => ?_) (fun c23 => ?_)
    · -- 72
      refine hX.1 2 _ rfl _ _ _ _ ?_
      exact hX.2 _ _ [(0, .inr 0)] _ _ _ (mWc rfl mW0) (b73 _ _ _ _ _ (rg_w (c := 4096) (d := 4096) (rg_c (a := 4096) (b := 4096) (by decide +kernel)) (by decide +kernel)) (rg_w (c := 0) (d := 11) (show rg 0 11 _ from (rg_le (show rg 0 15 _ from (rg_or (k := 4) (show rg 0 7 _ from (rg_andR (rg_c (a := 7) (b := 7) (by decide +kernel)) (by decide +kernel))) (show rg 0 8 _ from (rg_andR (rg_c (a := 8) (b := 8) (by decide +kernel)) (by decide +kernel))) (by decide +kernel))) (rg_c (a := 11) (b := 11) (by decide +kernel)) c23 (by decide +kernel))) (by decide +kernel)) (rP0 hI (by decide +kernel)))
    · -- on
      exact hX.2 _ _ [(0, .inr 0)] _ _ _ (mWc rfl mW0) (b73 _ _ _ _ _ (rg_w (c := 4096) (d := 4096) (rg_c (a := 4096) (b := 4096) (by decide +kernel)) (by decide +kernel)) (rg_w (c := 0) (d := 11) (rg_c (a := 11) (b := 11) (by decide +kernel)) (by decide +kernel)) (rP0 hI (by decide +kernel)))
  · -- on
    exact And.intro (mRt_z (rg_01 (rg_c (a := 1) (b := 1) (by decide +kernel)) (by decide +kernel))) (hK _ _ _ (rg_w (c := 0) (d := 1) (rg_c (a := 1) (b := 1) (by decide +kernel)) (by decide +kernel)) (rP0 hI (by decide +kernel)))
def SPX9_eeprom (S : mSp) : Prop := ∀ (n e : Int) (f0 f : mFn) (g : mGn) (K : mKr) (x1 : Int32), rI n e f0 f g → (∀ (y : Int32) (f' : mFn) (g' : mGn), rg 0 255 y → rI n e f0 f' g' → K (some (.inl y)) f' g') → S [.inr 0, .inl x1] f g K
set_option maxRecDepth 100000 in
set_option maxHeartbeats 4000000 in
theorem sfX9_eeprom : SPX9_eeprom spX9_eeprom := by
  intro n e f0 f g K x1  hI hK
  refine ⟨rfl, fun X hX => ?_⟩
  obtain ⟨S_X9_right, k_X9_right, hX⟩ : ∃ S_X9_right, SPX9_right S_X9_right ∧ mR shM fdX9_eeprom [(359, 0, 1, 12, S_X9_right)] bsX9_eeprom (fun r f g => mRt (some .int) r ∧ K r f g) X := ⟨spX9_right, sfX9_right, hX⟩
  refine hX.1 0 _ rfl _ _ _ _ ?_
  refine And.intro (fun c15 => ?_) (fun c15 => ?_)
  · -- 16
    refine hX.1 1 _ rfl _ _ _ _ ?_
    refine hX.1 2 _ rfl _ _ _ _ ?_
    refine k_X9_right n e f0 _ _ _ _ (rg_w (c := 0) (d := 1) (rg_c (a := 0) (b := 0) (by decide +kernel)) (by decide +kernel)) hI (fun f17 gf17 hI18 => ?_)
    refine And.intro (fun c19 => ?_) (fun c19 => ?_)
    · -- 32
      refine hX.1 3 _ rfl _ _ _ _ ?_
      refine hX.1 4 _ rfl _ _ _ _ ?_
      exact And.intro mRt_i (hK _ _ _ (rg_w (c := 0) (d := 255) (rg_c (a := 0) (b := 0) (by decide +kernel)) (by decide +kernel)) hI18)
    · -- on
      exact (rg_no (show rg 1 0 _ from (rg_neN (rg_c (a := 0) (b := 0) (by decide +kernel)) (rg_c (a := 0) (b := 0) (by decide +kernel)) c19 (by decide +kernel))) (by decide +kernel)).elim
  · -- on
    refine And.intro (fun c20 => ?_) (fun c20 => ?_)
    · -- 16
      refine hX.1 1 _ rfl _ _ _ _ ?_
      refine hX.1 2 _ rfl _ _ _ _ ?_
      refine k_X9_right n e f0 _ _ _ _ (rg_w (c := 0) (d := 1) (rg_c (a := 0) (b := 0) (by decide +kernel)) (by decide +kernel)) hI (fun f22 gf22 hI23 => ?_)
      refine And.intro (fun c24 => ?_) (fun c24 => ?_)
      · -- 32
        refine hX.1 3 _ rfl _ _ _ _ ?_
        refine hX.1 4 _ rfl _ _ _ _ ?_
        exact And.intro mRt_i (hK _ _ _ (rg_w (c := 0) (d := 255) (rg_c (a := 0) (b := 0) (by decide +kernel)) (by decide +kernel)) hI23)
      · -- on
        exact (rg_no (show rg 1 0 _ from (rg_neN (rg_c (a := 0) (b := 0) (by decide +kernel)) (rg_c (a := 0) (b := 0) (by decide +kernel)) c24 (by decide +kernel))) (by decide +kernel)).elim
    · -- on
      refine hX.1 2 _ rfl _ _ _ _ ?_
      refine k_X9_right n e f0 _ _ _ _ (rg_w (c := 0) (d := 1) (rg_c (a := 1) (b := 1) (by decide +kernel)) (by decide +kernel)) hI (fun f26 gf26 hI27 => ?_)
      refine And.intro (fun c28 => ?_) (fun c28 => ?_)
      · -- 32
        exact (rg_no (show rg 1 0 _ from (rg_eqN (rg_c (a := 1) (b := 1) (by decide +kernel)) (rg_c (a := 0) (b := 0) (by decide +kernel)) c28 (by decide +kernel))) (by decide +kernel)).elim
      · -- on
        refine And.intro (rg_in (show rg 0 255 _ from (rg_lt (show rg 0 2147483647 _ from (rg_ge (rg_all _) (rg_c (a := 0) (b := 0) (by decide +kernel)) (rg_nlt c15) (by decide +kernel))) (rg_c (a := 256) (b := 256) (by decide +kernel)) (rg_nle c20) (by decide +kernel))) (by decide +kernel)) ?_
        refine hX.1 4 _ rfl _ _ _ _ ?_
        exact And.intro mRt_i (hK _ _ _ (rg_w (c := 0) (d := 255) (gI_g hI27 3 4 256 0 255 rfl (rg_in (show rg 0 255 _ from (rg_lt (show rg 0 2147483647 _ from (rg_ge (rg_all _) (rg_c (a := 0) (b := 0) (by decide +kernel)) (rg_nlt c15) (by decide +kernel))) (rg_c (a := 256) (b := 256) (by decide +kernel)) (rg_nle c20) (by decide +kernel))) (by decide +kernel))) (by decide +kernel)) hI27)
