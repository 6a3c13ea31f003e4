def SPX9_setPointer (S : mSp) : Prop := ∀ (n e : Int) (f0 f : mFn) (g : mGn) (K : mKr) (x1 : Int32) (x2 : Int32), rg 0 93 x1 → rg (-1) 65536 x2 → rI n e f0 f g → (∀ (f' : mFn) (g' : mGn), rI n e f0 f' g' → K none f' g') → S [.inr 0, .inl x1, .inl x2] f g K
set_option maxRecDepth 100000 in
set_option maxHeartbeats 4000000 in
theorem sfX9_setPointer : SPX9_setPointer spX9_setPointer := by
  intro n e f0 f g K x1 x2 hx1 hx2 hI hK
  refine ⟨rfl, fun X hX => ?_⟩
  refine hX.1 0 _ rfl _ _ _ _ ?_
  refine And.intro (rg_in hx1 (by decide +kernel)) ?_
  refine And.intro (rg_in (show rg 1 94 _ from (rg_add hx1 (rg_c (a := 1) (b := 1) (by decide +kernel)) (by decide +kernel))) (by decide +kernel)) ?_
  exact And.intro mRt_v (hK _ _ (gI_a1 (gI_a1 hI 2 1280 (lo := 0) (hi := 255) (rg_w (c := 0) (d := 255) (show rg 0 255 _ from (rg_andR (rg_c (a := 255) (b := 255) (by decide +kernel)) (by decide +kernel))) (by decide +kernel)) (by decide +kernel)) 2 1280 (lo := 0) (hi := 255) (rg_w (c := 0) (d := 255) (show rg 0 255 _ from (rg_andR (rg_c (a := 255) (b := 255) (by decide +kernel)) (by decide +kernel))) (by decide +kernel)) (by decide +kernel)))
def SPX9_push (S : mSp) : Prop := ∀ (n e : Int) (f0 f : mFn) (g : mGn) (K : mKr) (x1 : Int32), rg 0 255 x1 → n + 1 ≤ 300000000 → rI n e f0 f g → (∀ (f' : mFn) (g' : mGn), rI (n + 1) e f0 f' g' → K none f' g') → S [.inr 0, .inl x1] f g K
set_option maxRecDepth 100000 in
set_option maxHeartbeats 4000000 in
theorem sfX9_push : SPX9_push spX9_push := by
  intro n e f0 f g K x1 hx1 hB hI hK
  refine ⟨rfl, fun X hX => ?_⟩
  obtain ⟨S_X9_pointer, k_X9_pointer, S_X9_store, k_X9_store, S_X9_setPointer, k_X9_setPointer, hX⟩ : ∃ S_X9_pointer, SPX9_pointer S_X9_pointer ∧ ∃ S_X9_store, SPX9_store S_X9_store ∧ ∃ S_X9_setPointer, SPX9_setPointer S_X9_setPointer ∧ mR shM fdX9_push [(231, 0, 1, 12, S_X9_pointer), (234, 0, 2, 12, S_X9_store), (238, 0, 2, 12, S_X9_setPointer)] bsX9_push (fun r f g => mRt none r ∧ K r f g) X := ⟨spX9_pointer, sfX9_pointer, spX9_store, sfX9_store, spX9_setPointer, sfX9_setPointer, hX⟩
  refine hX.1 0 _ rfl _ _ _ _ ?_
  refine k_X9_pointer n e f0 _ _ _ _ (rg_w (c := 0) (d := 93) (rg_c (a := 93) (b := 93) (by decide +kernel)) (by decide +kernel)) hI (fun y10 hy10 => ?_)
  refine k_X9_store n e f0 _ _ _ _ _ (rg_w (c := 0) (d := 65535) hy10 (by decide +kernel)) (rg_w (c := 0) (d := 255) hx1 (by decide +kernel)) (by omega) hI (fun f14 gf14 hI15 => ?_)
  refine k_X9_setPointer (n + 1) e f0 _ _ _ _ _ (rg_w (c := 0) (d := 93) (rg_c (a := 93) (b := 93) (by decide +kernel)) (by decide +kernel)) (rg_w (c := (-1)) (d := 65536) (show rg (-1) 65534 _ from (rg_sub hy10 (rg_c (a := 1) (b := 1) (by decide +kernel)) (by decide +kernel))) (by decide +kernel)) hI15 (fun f17 gf17 hI18 => ?_)
  exact And.intro mRt_v (hK _ _ hI18)
def SPX9_pushPlace (S : mSp) : Prop := ∀ (n e : Int) (f0 f : mFn) (g : mGn) (K : mKr) (x1 : Int32), rg 0 2047 x1 → n + 2 ≤ 300000000 → rI n e f0 f g → (∀ (f' : mFn) (g' : mGn), rI (n + 2) e f0 f' g' → K none f' g') → S [.inr 0, .inl x1] f g K
set_option maxRecDepth 100000 in
set_option maxHeartbeats 4000000 in
theorem sfX9_pushPlace : SPX9_pushPlace spX9_pushPlace := by
  intro n e f0 f g K x1 hx1 hB hI hK
  refine ⟨rfl, fun X hX => ?_⟩
  obtain ⟨S_X9_push, k_X9_push, hX⟩ : ∃ S_X9_push, SPX9_push S_X9_push ∧ mR shM fdX9_pushPlace [(244, 0, 1, 12, S_X9_push)] bsX9_pushPlace (fun r f g => mRt none r ∧ K r f g) X := ⟨spX9_push, sfX9_push, hX⟩
  refine hX.1 0 _ rfl _ _ _ _ ?_
  refine k_X9_push n e f0 _ _ _ _ (rg_w (c := 0) (d := 255) (show rg 0 255 _ from (rg_andR (rg_c (a := 255) (b := 255) (by decide +kernel)) (by decide +kernel))) (by decide +kernel)) (by omega) hI (fun f8 gf8 hI9 => ?_)
  refine k_X9_push (n + 1) e f0 _ _ _ _ (rg_w (c := 0) (d := 255) (show rg 0 7 _ from (rg_shrK 8 hx1 (by decide +kernel) (by decide +kernel))) (by decide +kernel)) (by omega) hI9 (fun f11 gf11 hI12 => ?_)
  have hI12 := rN hI12 (show _ = n + 2 by omega)
  exact And.intro mRt_v (hK _ _ hI12)
def SPX9_enter (S : mSp) : Prop := ∀ (n e : Int) (f0 f : mFn) (g : mGn) (K : mKr) (x1 : Int32), rg 1 8 x1 → n + 2 ≤ 300000000 → rI n e f0 f g → (∀ (f' : mFn) (g' : mGn), rI (n + 2) e f0 f' g' → K none f' g') → S [.inr 0, .inl x1] f g K
set_option maxRecDepth 100000 in
set_option maxHeartbeats 4000000 in
theorem sfX9_enter : SPX9_enter spX9_enter := by
  intro n e f0 f g K x1 hx1 hB hI hK
  refine ⟨rfl, fun X hX => ?_⟩
  obtain ⟨S_X9_pushPlace, k_X9_pushPlace, S_X9_setFlag, k_X9_setFlag, hX⟩ : ∃ S_X9_pushPlace, SPX9_pushPlace S_X9_pushPlace ∧ ∃ S_X9_setFlag, SPX9_setFlag S_X9_setFlag ∧ mR shM fdX9_enter [(169, 0, 1, 12, S_X9_pushPlace), (172, 0, 2, 12, S_X9_setFlag)] bsX9_enter (fun r f g => mRt none r ∧ K r f g) X := ⟨spX9_pushPlace, sfX9_pushPlace, spX9_setFlag, sfX9_setFlag, hX⟩
  have b134 : ∀ (s1 : Int32) (s2 : Int32) (f : mFn) (g : mGn), rg 0 16 s1 → rg 0 1536 s2 → rI (n + 2) e f0 f g → X 134 [(0, .inr 0)] [.inl s2, .inl s1, .inr 0] f g := by
    intro s1 s2 f g hs1 hs2 hI
    refine hX.1 8 _ rfl _ _ _ _ ?_
    exact And.intro mRt_v (hK _ _ (rP0 (rP1 5 (rg_w (c := 0) (d := 2047) (show rg 0 1552 _ from (rg_add hs1 hs2 (by decide +kernel))) (by decide +kernel)) hI (by decide +kernel)) (by decide +kernel)))
  have b104 : ∀ (a1 : Int32) (f : mFn) (g : mGn), rg 1 8 a1 → rI (n + 2) e f0 f g → X 104 [(0, .inr 0), (1, .inl a1)] [] f g := by
    intro a1 f g ha1 hI
    refine hX.1 6 _ rfl _ _ _ _ ?_
    refine k_X9_setFlag (n + 2) e f0 _ _ _ _ _ (rg_w (c := 0) (d := 7) (rg_c (a := 7) (b := 7) (by decide +kernel)) (by decide +kernel)) (rg_w (c := 0) (d := 1) (rg_c (a := 0) (b := 0) (by decide +kernel)) (by decide +kernel)) hI (fun f23 gf23 hI24 => ?_)
    refine And.intro (rg_in (rg_c (a := 85) (b := 85) (by decide +kernel)) (by decide +kernel)) ?_
    refine And.intro (fun c25 => ?_) (fun c25 => ?_)
    · -- 133
      refine hX.1 7 _ rfl _ _ _ _ ?_
      exact hX.2 _ _ [(0, .inr 0)] _ _ _ (mWc rfl mW0) (b134 _ _ _ _ (rg_w (c := 0) (d := 16) (show rg 0 16 _ from (rg_mul (rg_c (a := 2) (b := 2) (by decide +kernel)) ha1 (by decide +kernel))) (by decide +kernel)) (rg_w (c := 0) (d := 1536) (rg_c (a := 0) (b := 0) (by decide +kernel)) (by decide +kernel)) hI24)
    · -- on
      exact hX.2 _ _ [(0, .inr 0)] _ _ _ (mWc rfl mW0) (b134 _ _ _ _ (rg_w (c := 0) (d := 16) (show rg 0 16 _ from (rg_mul (rg_c (a := 2) (b := 2) (by decide +kernel)) ha1 (by decide +kernel))) (by decide +kernel)) (rg_w (c := 0) (d := 1536) (rg_c (a := 1536) (b := 1536) (by decide +kernel)) (by decide +kernel)) hI24)
  have b84 : ∀ (a1 : Int32) (f : mFn) (g : mGn), rg 1 8 a1 → rI (n + 2) e f0 f g → X 84 [(0, .inr 0), (1, .inl a1)] [] f g := by
    intro a1 f g ha1 hI
    refine hX.1 5 _ rfl _ _ _ _ ?_
    refine And.intro (fun c26 => ?_) (fun c26 => ?_)
    · -- 104
      exact hX.2 _ _ [(0, .inr 0), (1, .inl _)] _ _ _ (mWc rfl (mWc rfl mW0)) (b104 _ _ _ (rg_w (c := 1) (d := 8) ha1 (by decide +kernel)) hI)
    · -- on
      refine And.intro (rg_in (rg_c (a := 192) (b := 192) (by decide +kernel)) (by decide +kernel)) ?_
      refine And.intro (rg_in (rg_c (a := 192) (b := 192) (by decide +kernel)) (by decide +kernel)) ?_
      exact hX.2 _ _ [(0, .inr 0), (1, .inl _)] _ _ _ (mWc rfl (mWc rfl mW0)) (b104 _ _ _ (rg_w (c := 1) (d := 8) (show rg 6 6 _ from (rg_eq (rg_c (a := 6) (b := 6) (by decide +kernel)) c26)) (by decide +kernel)) (gI_a1 hI 2 1280 (lo := 0) (hi := 255) (rg_w (c := 0) (d := 255) (show rg 0 191 _ from (rg_andR (rg_c (a := 191) (b := 191) (by decide +kernel)) (by decide +kernel))) (by decide +kernel)) (by decide +kernel)))
  have b66 : ∀ (a1 : Int32) (f : mFn) (g : mGn), rg 1 8 a1 → rI (n + 2) e f0 f g → X 66 [(0, .inr 0), (1, .inl a1)] [] f g := by
    intro a1 f g ha1 hI
    refine hX.1 4 _ rfl _ _ _ _ ?_
    refine And.intro (fun c28 => ?_) (fun c28 => ?_)
    · -- 84
      exact hX.2 _ _ [(0, .inr 0), (1, .inl _)] _ _ _ (mWc rfl (mWc rfl mW0)) (b84 _ _ _ (rg_w (c := 1) (d := 8) ha1 (by decide +kernel)) hI)
    · -- on
      refine And.intro (rg_in (rg_c (a := 53) (b := 53) (by decide +kernel)) (by decide +kernel)) ?_
      refine And.intro (rg_in (rg_c (a := 53) (b := 53) (by decide +kernel)) (by decide +kernel)) ?_
      exact hX.2 _ _ [(0, .inr 0), (1, .inl _)] _ _ _ (mWc rfl (mWc rfl mW0)) (b84 _ _ _ (rg_w (c := 1) (d := 8) (show rg 3 3 _ from (rg_eq (rg_c (a := 3) (b := 3) (by decide +kernel)) c28)) (by decide +kernel)) (gI_a1 hI 2 1280 (lo := 0) (hi := 255) (rg_w (c := 0) (d := 255) (show rg 0 254 _ from (rg_andR (rg_c (a := 254) (b := 254) (by decide +kernel)) (by decide +kernel))) (by decide +kernel)) (by decide +kernel)))
  have b48 : ∀ (a1 : Int32) (f : mFn) (g : mGn), rg 1 8 a1 → rI (n + 2) e f0 f g → X 48 [(0, .inr 0), (1, .inl a1)] [] f g := by
    intro a1 f g ha1 hI
    refine hX.1 3 _ rfl _ _ _ _ ?_
    refine And.intro (fun c30 => ?_) (fun c30 => ?_)
    · -- 66
      exact hX.2 _ _ [(0, .inr 0), (1, .inl _)] _ _ _ (mWc rfl (mWc rfl mW0)) (b66 _ _ _ (rg_w (c := 1) (d := 8) ha1 (by decide +kernel)) hI)
    · -- on
      refine And.intro (rg_in (rg_c (a := 53) (b := 53) (by decide +kernel)) (by decide +kernel)) ?_
      refine And.intro (rg_in (rg_c (a := 53) (b := 53) (by decide +kernel)) (by decide +kernel)) ?_
      exact hX.2 _ _ [(0, .inr 0), (1, .inl _)] _ _ _ (mWc rfl (mWc rfl mW0)) (b66 _ _ _ (rg_w (c := 1) (d := 8) (show rg 2 2 _ from (rg_eq (rg_c (a := 2) (b := 2) (by decide +kernel)) c30)) (by decide +kernel)) (gI_a1 hI 2 1280 (lo := 0) (hi := 255) (rg_w (c := 0) (d := 255) (show rg 0 253 _ from (rg_andR (rg_c (a := 253) (b := 253) (by decide +kernel)) (by decide +kernel))) (by decide +kernel)) (by decide +kernel)))
  have b46 : ∀ (a1 : Int32) (s1 : Int32) (s2 : Int32) (s3 : Int32) (f : mFn) (g : mGn), rg 1 1 a1 → rg 96 96 s1 → rg 0 255 s2 → rg 63 127 s3 → rI (n + 2) e f0 f g → X 46 [(0, .inr 0), (1, .inl a1)] [.inl s3, .inl s2, .inl s1, .inr 3] f g := by
    intro a1 s1 s2 s3 f g ha1 hs1 hs2 hs3 hI
    refine hX.1 2 _ rfl _ _ _ _ ?_
    refine And.intro (rg_in hs1 (by decide +kernel)) ?_
    exact hX.2 _ _ [(0, .inr 0), (1, .inl _)] _ _ _ (mWc rfl (mWc rfl mW0)) (b48 _ _ _ (rg_w (c := 1) (d := 8) ha1 (by decide +kernel)) (gI_a1 hI 2 1280 (lo := 0) (hi := 255) (rg_w (c := 0) (d := 255) (show rg 0 127 _ from (rg_andR hs3 (by decide +kernel))) (by decide +kernel)) (by decide +kernel)))
  refine hX.1 0 _ rfl _ _ _ _ ?_
  refine And.intro (rg_01 (rg_c (a := 0) (b := 0) (by decide +kernel)) (by decide +kernel)) ?_
  refine k_X9_pushPlace n e f0 _ _ _ _ (rg_w (c := 0) (d := 2047) (gI_s (rP0 hI (by decide +kernel)) 5 12 0 2047 rfl) (by decide +kernel)) (by omega) (rP0 hI (by decide +kernel)) (fun f35 gf35 hI36 => ?_)
  refine And.intro (fun c37 => ?_) (fun c37 => ?_)
  · -- 48
    exact hX.2 _ _ [(0, .inr 0), (1, .inl _)] _ _ _ (mWc rfl (mWc rfl mW0)) (b48 _ _ _ (rg_w (c := 1) (d := 8) (show rg 2 8 _ from (rg_neL hx1 (rg_c (a := 1) (b := 1) (by decide +kernel)) c37 (by decide +kernel))) (by decide +kernel)) hI36)
  · -- on
    refine And.intro (rg_in (rg_c (a := 96) (b := 96) (by decide +kernel)) (by decide +kernel)) ?_
    refine And.intro (rg_in (rg_c (a := 96) (b := 96) (by decide +kernel)) (by decide +kernel)) ?_
    refine And.intro (fun c38 => ?_) (fun c38 => ?_)
    · -- 44
      refine hX.1 1 _ rfl _ _ _ _ ?_
      exact hX.2 _ _ [(0, .inr 0), (1, .inl _)] _ _ _ (mWc rfl (mWc rfl mW0)) (b46 _ _ _ _ _ _ (rg_w (c := 1) (d := 1) (show rg 1 1 _ from (rg_eq (rg_c (a := 1) (b := 1) (by decide +kernel)) c37)) (by decide +kernel)) (rg_w (c := 96) (d := 96) (rg_c (a := 96) (b := 96) (by decide +kernel)) (by decide +kernel)) (rg_w (c := 0) (d := 255) (gI_g hI36 2 3 1280 0 255 rfl (rg_in (rg_c (a := 96) (b := 96) (by decide +kernel)) (by decide +kernel))) (by decide +kernel)) (rg_w (c := 63) (d := 127) (rg_c (a := 127) (b := 127) (by decide +kernel)) (by decide +kernel)) hI36)
    · -- on
      exact hX.2 _ _ [(0, .inr 0), (1, .inl _)] _ _ _ (mWc rfl (mWc rfl mW0)) (b46 _ _ _ _ _ _ (rg_w (c := 1) (d := 1) (show rg 1 1 _ from (rg_eq (rg_c (a := 1) (b := 1) (by decide +kernel)) c37)) (by decide +kernel)) (rg_w (c := 96) (d := 96) (rg_c (a := 96) (b := 96) (by decide +kernel)) (by decide +kernel)) (rg_w (c := 0) (d := 255) (gI_g hI36 2 3 1280 0 255 rfl (rg_in (rg_c (a := 96) (b := 96) (by decide +kernel)) (by decide +kernel))) (by decide +kernel)) (rg_w (c := 63) (d := 127) (rg_c (a := 63) (b := 63) (by decide +kernel)) (by decide +kernel)) hI36)
def SPX9_flashByte (S : mSp) : Prop := ∀ (n e : Int) (f0 f : mFn) (g : mGn) (K : mKr) (x1 : Int32), rg 0 65535 x1 → rI n e f0 f g → (∀ (y : Int32) (f' : mFn) (g' : mGn), rg 0 255 y → rI n e f0 f' g' → K (some (.inl y)) f' g') → S [.inr 0, .inl x1] f g K
set_option maxRecDepth 100000 in
set_option maxHeartbeats 4000000 in
theorem sfX9_flashByte : SPX9_flashByte spX9_flashByte := by
  intro n e f0 f g K x1 hx1 hI hK
  refine ⟨rfl, fun X hX => ?_⟩
  obtain ⟨S_X9_code, k_X9_code, hX⟩ : ∃ S_X9_code, SPX9_code S_X9_code ∧ mR shM fdX9_flashByte [(228, 0, 1, 12, S_X9_code)] bsX9_flashByte (fun r f g => mRt (some .int) r ∧ K r f g) X := ⟨spX9_code, sfX9_code, hX⟩
  have b75 : ∀ (s0 : Int32) (f : mFn) (g : mGn), rg 0 255 s0 → rI n e f0 f g → X 75 [] [.inl s0] f g := by
    intro s0 f g hs0 hI
    refine hX.1 3 _ rfl _ _ _ _ ?_
    exact And.intro mRt_i (hK _ _ _ (rg_w (c := 0) (d := 255) hs0 (by decide +kernel)) hI)
  have b165 : ∀ (s0 : Int32) (f : mFn) (g : mGn), rg 0 255 s0 → rI n e f0 f g → X 165 [] [.inl s0] f g := by
    intro s0 f g hs0 hI
    refine hX.1 13 _ rfl _ _ _ _ ?_
    exact And.intro mRt_i (hK _ _ _ (rg_w (c := 0) (d := 255) hs0 (by decide +kernel)) hI)
  have b139 : ∀ (a1 : Int32) (a2 : Int32) (f : mFn) (g : mGn), rg 0 65535 a1 → rg 0 2047 a2 → rI n e f0 f g → X 139 [(0, .inr 0), (1, .inl a1), (2, .inl a2)] [] f g := by
    intro a1 a2 f g ha1 ha2 hI
    refine hX.1 11 _ rfl _ _ _ _ ?_
    refine And.intro (by decide +kernel) ?_
    refine And.intro (fun c19 => ?_) (fun c19 => ?_)
    · -- 157
      refine hX.1 12 _ rfl _ _ _ _ ?_
      refine k_X9_code n e f0 _ _ _ _ (rg_w (c := 0) (d := 2047) ha2 (by decide +kernel)) hI (fun y20 hy20 => ?_)
      exact hX.2 _ _ [] _ _ _ mW0 (b165 _ _ _ (rg_w (c := 0) (d := 255) (show rg 0 255 _ from (rg_shrK 8 hy20 (by decide +kernel) (by decide +kernel))) (by decide +kernel)) hI)
    · -- on
      refine k_X9_code n e f0 _ _ _ _ (rg_w (c := 0) (d := 2047) ha2 (by decide +kernel)) hI (fun y23 hy23 => ?_)
      exact hX.2 _ _ [] _ _ _ mW0 (b165 _ _ _ (rg_w (c := 0) (d := 255) (show rg 0 255 _ from (rg_andR (rg_c (a := 255) (b := 255) (by decide +kernel)) (by decide +kernel))) (by decide +kernel)) hI)
  have b129 : ∀ (a1 : Int32) (a2 : Int32) (s0 : Int32) (s1 : Int32) (f : mFn) (g : mGn), rg 0 65535 a1 → rg 0 2047 a2 → rg 0 15 s0 → rg 1 3 s1 → rI n e f0 f g → X 129 [(0, .inr 0), (1, .inl a1), (2, .inl a2)] [.inl s1, .inl s0] f g := by
    intro a1 a2 s0 s1 f g ha1 ha2 hs0 hs1 hI
    refine hX.1 10 _ rfl _ _ _ _ ?_
    refine And.intro (fun c26 => ?_) (fun c26 => ?_)
    · -- 139
      exact hX.2 _ _ [(0, .inr 0), (1, .inl _), (2, .inl _)] _ _ _ (mWc rfl (mWc rfl (mWc rfl mW0))) (b139 _ _ _ _ (rg_w (c := 0) (d := 65535) ha1 (by decide +kernel)) (rg_w (c := 0) (d := 2047) ha2 (by decide +kernel)) hI)
    · -- on
      exact And.intro mRt_i (hK _ _ _ (rg_w (c := 0) (d := 255) (rg_c (a := 255) (b := 255) (by decide +kernel)) (by decide +kernel)) hI)
  have b113 : ∀ (a1 : Int32) (a2 : Int32) (a3 : Int32) (s0 : Int32) (s1 : Int32) (f : mFn) (g : mGn), rg 0 65535 a1 → rg 0 2047 a2 → rg 0 1 a3 → rg 0 1 s0 → rg 0 1 s1 → rI n e f0 f g → X 113 [(0, .inr 0), (1, .inl a1), (2, .inl a2), (3, .inl a3)] [.inl s1, .inl s0] f g := by
    intro a1 a2 a3 s0 s1 f g ha1 ha2 ha3 hs0 hs1 hI
    refine hX.1 8 _ rfl _ _ _ _ ?_
    refine And.intro (fun c27 => ?_) (fun c27 => ?_)
    · -- 139
      exact hX.2 _ _ [(0, .inr 0), (1, .inl _), (2, .inl _)] _ _ _ (mWc rfl (mWc rfl (mWc rfl mW0))) (b139 _ _ _ _ (rg_w (c := 0) (d := 65535) ha1 (by decide +kernel)) (rg_w (c := 0) (d := 2047) ha2 (by decide +kernel)) hI)
    · -- on
      refine And.intro (fun c28 => ?_) (fun c28 => ?_)
      · -- 128
        refine hX.1 9 _ rfl _ _ _ _ ?_
        exact hX.2 _ _ [(0, .inr 0), (1, .inl _), (2, .inl _)] _ _ _ (mWc rfl (mWc rfl (mWc rfl mW0))) (b129 _ _ _ _ _ _ (rg_w (c := 0) (d := 65535) ha1 (by decide +kernel)) (rg_w (c := 0) (d := 2047) ha2 (by decide +kernel)) (rg_w (c := 0) (d := 15) (gI_s hI 1 6 0 15 rfl) (by decide +kernel)) (rg_w (c := 1) (d := 3) (rg_c (a := 1) (b := 1) (by decide +kernel)) (by decide +kernel)) hI)
      · -- on
        exact hX.2 _ _ [(0, .inr 0), (1, .inl _), (2, .inl _)] _ _ _ (mWc rfl (mWc rfl (mWc rfl mW0))) (b129 _ _ _ _ _ _ (rg_w (c := 0) (d := 65535) ha1 (by decide +kernel)) (rg_w (c := 0) (d := 2047) ha2 (by decide +kernel)) (rg_w (c := 0) (d := 15) (gI_s hI 1 6 0 15 rfl) (by decide +kernel)) (rg_w (c := 1) (d := 3) (rg_c (a := 3) (b := 3) (by decide +kernel)) (by decide +kernel)) hI)
  have b96 : ∀ (a1 : Int32) (a2 : Int32) (s0 : Int32) (f : mFn) (g : mGn), rg 0 65535 a1 → rg 0 2047 a2 → rg 0 1 s0 → rI n e f0 f g → X 96 [(0, .inr 0), (1, .inl a1), (2, .inl a2)] [.inl s0] f g := by
    intro a1 a2 s0 f g ha1 ha2 hs0 hI
    refine hX.1 6 _ rfl _ _ _ _ ?_
    refine And.intro (fun c29 => ?_) (fun c29 => ?_)
    · -- 112
      refine hX.1 7 _ rfl _ _ _ _ ?_
      exact hX.2 _ _ [(0, .inr 0), (1, .inl _), (2, .inl _), (3, .inl _)] _ _ _ (mWc rfl (mWc rfl (mWc rfl (mWc rfl mW0)))) (b113 _ _ _ _ _ _ _ (rg_w (c := 0) (d := 65535) ha1 (by decide +kernel)) (rg_w (c := 0) (d := 2047) ha2 (by decide +kernel)) (rg_w (c := 0) (d := 1) hs0 (by decide +kernel)) (rg_w (c := 0) (d := 1) hs0 (by decide +kernel)) (rg_w (c := 0) (d := 1) (rg_c (a := 0) (b := 0) (by decide +kernel)) (by decide +kernel)) hI)
    · -- on
      exact hX.2 _ _ [(0, .inr 0), (1, .inl _), (2, .inl _), (3, .inl _)] _ _ _ (mWc rfl (mWc rfl (mWc rfl (mWc rfl mW0)))) (b113 _ _ _ _ _ _ _ (rg_w (c := 0) (d := 65535) ha1 (by decide +kernel)) (rg_w (c := 0) (d := 2047) ha2 (by decide +kernel)) (rg_w (c := 0) (d := 1) hs0 (by decide +kernel)) (rg_w (c := 0) (d := 1) hs0 (by decide +kernel)) (rg_w (c := 0) (d := 1) (rg_c (a := 1) (b := 1) (by decide +kernel)) (by decide +kernel)) hI)
  have b76 : ∀ (a1 : Int32) (f : mFn) (g : mGn), rg 0 65535 a1 → rI n e f0 f g → X 76 [(0, .inr 0), (1, .inl a1)] [] f g := by
    intro a1 f g ha1 hI
    refine hX.1 4 _ rfl _ _ _ _ ?_
    refine And.intro (fun c30 => ?_) (fun c30 => ?_)
    · -- 95
      refine hX.1 5 _ rfl _ _ _ _ ?_
      exact hX.2 _ _ [(0, .inr 0), (1, .inl _), (2, .inl _)] _ _ _ (mWc rfl (mWc rfl (mWc rfl mW0))) (b96 _ _ _ _ _ (rg_w (c := 0) (d := 65535) ha1 (by decide +kernel)) (rg_w (c := 0) (d := 2047) (show rg 0 1535 _ from (rg_lt (show rg 0 2047 _ from (rg_andR (rg_c (a := 2047) (b := 2047) (by decide +kernel)) (by decide +kernel))) (rg_c (a := 1536) (b := 1536) (by decide +kernel)) c30 (by decide +kernel))) (by decide +kernel)) (rg_w (c := 0) (d := 1) (rg_c (a := 0) (b := 0) (by decide +kernel)) (by decide +kernel)) hI)
    · -- on
      exact hX.2 _ _ [(0, .inr 0), (1, .inl _), (2, .inl _)] _ _ _ (mWc rfl (mWc rfl (mWc rfl mW0))) (b96 _ _ _ _ _ (rg_w (c := 0) (d := 65535) ha1 (by decide +kernel)) (rg_w (c := 0) (d := 2047) (show rg 1536 2047 _ from (rg_ge (show rg 0 2047 _ from (rg_andR (rg_c (a := 2047) (b := 2047) (by decide +kernel)) (by decide +kernel))) (rg_c (a := 1536) (b := 1536) (by decide +kernel)) (rg_nlt c30) (by decide +kernel))) (by decide +kernel)) (rg_w (c := 0) (d := 1) (rg_c (a := 1) (b := 1) (by decide +kernel)) (by decide +kernel)) hI)
  refine hX.1 0 _ rfl _ _ _ _ ?_
  refine And.intro (fun c31 => ?_) (fun c31 => ?_)
  · -- 76
    exact hX.2 _ _ [(0, .inr 0), (1, .inl _)] _ _ _ (mWc rfl (mWc rfl mW0)) (b76 _ _ _ (rg_w (c := 0) (d := 65535) hx1 (by decide +kernel)) hI)
  · -- on
    refine And.intro (rg_in (rg_c (a := 87) (b := 87) (by decide +kernel)) (by decide +kernel)) ?_
    refine And.intro (fun c32 => ?_) (fun c32 => ?_)
    · -- 76
      exact hX.2 _ _ [(0, .inr 0), (1, .inl _)] _ _ _ (mWc rfl (mWc rfl mW0)) (b76 _ _ _ (rg_w (c := 0) (d := 65535) hx1 (by decide +kernel)) hI)
    · -- on
      refine And.intro (rg_in (rg_c (a := 87) (b := 87) (by decide +kernel)) (by decide +kernel)) ?_
      refine And.intro (rg_in (rg_c (a := 87) (b := 87) (by decide +kernel)) (by decide +kernel)) ?_
      refine And.intro (fun c35 => ?_) (fun c35 => ?_)
      · -- 57
        refine hX.1 1 _ rfl _ _ _ _ ?_
        refine And.intro (fun c36 => ?_) (fun c36 => ?_)
        · -- 72
          refine hX.1 2 _ rfl _ _ _ _ ?_
          exact hX.2 _ _ [] _ _ _ mW0 (b75 _ _ _ (rg_w (c := 0) (d := 255) (rg_c (a := 255) (b := 255) (by decide +kernel)) (by decide +kernel)) (gI_a1 (rP0 hI (by decide +kernel)) 2 1280 (lo := 0) (hi := 255) (rg_w (c := 0) (d := 255) (show rg 0 224 _ from (rg_andR (rg_c (a := 224) (b := 224) (by decide +kernel)) (by decide +kernel))) (by decide +kernel)) (by decide +kernel)))
        · -- on
          exact hX.2 _ _ [] _ _ _ mW0 (b75 _ _ _ (rg_w (c := 0) (d := 255) (show rg 0 255 _ from (rg_or (k := 8) (gI_s (rP0 hI (by decide +kernel)) 2 7 0 1 rfl) (rg_c (a := 254) (b := 254) (by decide +kernel)) (by decide +kernel))) (by decide +kernel)) (gI_a1 (rP0 hI (by decide +kernel)) 2 1280 (lo := 0) (hi := 255) (rg_w (c := 0) (d := 255) (show rg 0 224 _ from (rg_andR (rg_c (a := 224) (b := 224) (by decide +kernel)) (by decide +kernel))) (by decide +kernel)) (by decide +kernel)))
      · -- on
        exact hX.2 _ _ [] _ _ _ mW0 (b75 _ _ _ (rg_w (c := 0) (d := 255) (show rg 0 255 _ from (rg_or (k := 8) (gI_s (rP0 hI (by decide +kernel)) 1 6 0 15 rfl) (rg_c (a := 240) (b := 240) (by decide +kernel)) (by decide +kernel))) (by decide +kernel)) (gI_a1 (rP0 hI (by decide +kernel)) 2 1280 (lo := 0) (hi := 255) (rg_w (c := 0) (d := 255) (show rg 0 224 _ from (rg_andR (rg_c (a := 224) (b := 224) (by decide +kernel)) (by decide +kernel))) (by decide +kernel)) (by decide +kernel)))
def SPX9_frame (S : mSp) : Prop := ∀ (n e : Int) (f0 f : mFn) (g : mGn) (K : mKr), rI n e f0 f g → (∀ (y : Int32), rg 0 655360 y → K (some (.inl y)) f g) → S [.inr 0] f g K
set_option maxRecDepth 100000 in
set_option maxHeartbeats 4000000 in
theorem sfX9_frame : SPX9_frame spX9_frame := by
  intro n e f0 f g K   hI hK
  refine ⟨rfl, fun X hX => ?_⟩
  have b46 : ∀ (s0 : Int32) (s1 : Int32), rg 1 4096 s0 → rg 80 160 s1 → X 46 [] [.inl s1, .inl s0] f g := by
    intro s0 s1 hs0 hs1
    refine hX.1 2 _ rfl _ _ _ _ ?_
    exact And.intro mRt_i (hK _ (rg_w (c := 0) (d := 655360) (show rg 0 655360 _ from (rg_mul hs0 hs1 (by decide +kernel))) (by decide +kernel)) )
  refine hX.1 0 _ rfl _ _ _ _ ?_
  refine And.intro (rg_in (rg_c (a := 197) (b := 197) (by decide +kernel)) (by decide +kernel)) ?_
  refine And.intro (rg_in (rg_c (a := 196) (b := 196) (by decide +kernel)) (by decide +kernel)) ?_
  refine And.intro (rg_in (rg_c (a := 192) (b := 192) (by decide +kernel)) (by decide +kernel)) ?_
  refine And.intro (fun c2 => ?_) (fun c2 => ?_)
  · -- 43
    refine hX.1 1 _ rfl _ _ _ _ ?_
    exact hX.2 _ _ [] _ _ _ mW0 (b46 _ _ (rg_w (c := 1) (d := 4096) (show rg 1 4096 _ from (rg_add (show rg 0 4095 _ from (rg_or (k := 12) (show rg 0 3840 _ from (rg_shlK 8 (show rg 0 15 _ from (rg_andR (rg_c (a := 15) (b := 15) (by decide +kernel)) (by decide +kernel))) (by decide +kernel) (by decide +kernel))) (gI_g hI 2 3 1280 0 255 rfl (rg_in (rg_c (a := 196) (b := 196) (by decide +kernel)) (by decide +kernel))) (by decide +kernel))) (rg_c (a := 1) (b := 1) (by decide +kernel)) (by decide +kernel))) (by decide +kernel)) (rg_w (c := 80) (d := 160) (rg_c (a := 160) (b := 160) (by decide +kernel)) (by decide +kernel)))
  · -- on
    exact hX.2 _ _ [] _ _ _ mW0 (b46 _ _ (rg_w (c := 1) (d := 4096) (show rg 1 4096 _ from (rg_add (show rg 0 4095 _ from (rg_or (k := 12) (show rg 0 3840 _ from (rg_shlK 8 (show rg 0 15 _ from (rg_andR (rg_c (a := 15) (b := 15) (by decide +kernel)) (by decide +kernel))) (by decide +kernel) (by decide +kernel))) (gI_g hI 2 3 1280 0 255 rfl (rg_in (rg_c (a := 196) (b := 196) (by decide +kernel)) (by decide +kernel))) (by decide +kernel))) (rg_c (a := 1) (b := 1) (by decide +kernel)) (by decide +kernel))) (by decide +kernel)) (rg_w (c := 80) (d := 160) (rg_c (a := 80) (b := 80) (by decide +kernel)) (by decide +kernel)))
def SPX9_fuses (S : mSp) : Prop := ∀ (n e : Int) (f0 f : mFn) (g : mGn) (K : mKr) (x1 : Int32), rI n e f0 f g → (∀ (y : Int32) (f' : mFn) (g' : mGn), rg 0 31 y → rI n e f0 f' g' → K (some (.inl y)) f' g') → S [.inr 0, .inl x1] f g K
set_option maxRecDepth 100000 in
set_option maxHeartbeats 4000000 in
theorem sfX9_fuses : SPX9_fuses spX9_fuses := by
  intro n e f0 f g K x1  hI hK
  refine ⟨rfl, fun X hX => ?_⟩
  refine hX.1 0 _ rfl _ _ _ _ ?_
  exact And.intro mRt_i (hK _ _ _ (rg_w (c := 0) (d := 31) (show rg 0 31 _ from (rg_or (k := 5) (show rg 0 16 _ from (rg_shlK 4 (gI_s (rP1 0 (rg_w (c := 0) (d := 1) (rg_c (a := 0) (b := 0) (by decide +kernel)) (by decide +kernel)) hI (by decide +kernel)) 2 7 0 1 rfl) (by decide +kernel) (by decide +kernel))) (gI_s (rP1 0 (rg_w (c := 0) (d := 1) (rg_c (a := 0) (b := 0) (by decide +kernel)) (by decide +kernel)) hI (by decide +kernel)) 1 6 0 15 rfl) (by decide +kernel))) (by decide +kernel)) (rP1 2 (rg_w (c := 0) (d := 1) (show rg 0 1 _ from (rg_andR (rg_c (a := 1) (b := 1) (by decide +kernel)) (by decide +kernel))) (by decide +kernel)) (rP1 1 (rg_w (c := 0) (d := 15) (show rg 0 15 _ from (rg_andR (rg_c (a := 15) (b := 15) (by decide +kernel)) (by decide +kernel))) (by decide +kernel)) (rP1 0 (rg_w (c := 0) (d := 1) (rg_c (a := 0) (b := 0) (by decide +kernel)) (by decide +kernel)) hI (by decide +kernel)) (by decide +kernel)) (by decide +kernel)))
def SPX9_got (S : mSp) : Prop := ∀ (n e : Int) (f0 f : mFn) (g : mGn) (K : mKr) (x1 : Int32), rI n e f0 f g → (∀ (y : Int32) (f' : mFn) (g' : mGn), rg 0 255 y → rI n e f0 f' g' → K (some (.inl y)) f' g') → S [.inr 0, .inl x1] f g K
set_option maxRecDepth 100000 in
set_option maxHeartbeats 4000000 in
theorem sfX9_got : SPX9_got spX9_got := by
  intro n e f0 f g K x1  hI hK
  refine ⟨rfl, fun X hX => ?_⟩
  obtain ⟨S_X9_right, k_X9_right, hX⟩ : ∃ S_X9_right, SPX9_right S_X9_right ∧ mR shM fdX9_got [(359, 0, 1, 12, S_X9_right)] bsX9_got (fun r f g => mRt (some .int) r ∧ K r f g) X := ⟨spX9_right, sfX9_right, hX⟩
  refine hX.1 0 _ rfl _ _ _ _ ?_
  refine And.intro (fun c20 => ?_) (fun c20 => ?_)
  · -- 24
    refine hX.1 1 _ rfl _ _ _ _ ?_
    refine hX.1 2 _ rfl _ _ _ _ ?_
    refine k_X9_right n e f0 _ _ _ _ (rg_w (c := 0) (d := 1) (rg_c (a := 0) (b := 0) (by decide +kernel)) (by decide +kernel)) hI (fun f22 gf22 hI23 => ?_)
    refine And.intro (fun c24 => ?_) (fun c24 => ?_)
    · -- 40
      refine hX.1 3 _ rfl _ _ _ _ ?_
      refine hX.1 4 _ rfl _ _ _ _ ?_
      exact And.intro mRt_i (hK _ _ _ (rg_w (c := 0) (d := 255) (rg_c (a := 0) (b := 0) (by decide +kernel)) (by decide +kernel)) hI23)
    · -- on
      exact (rg_no (show rg 1 0 _ from (rg_neN (rg_c (a := 0) (b := 0) (by decide +kernel)) (rg_c (a := 0) (b := 0) (by decide +kernel)) c24 (by decide +kernel))) (by decide +kernel)).elim
  · -- on
    refine And.intro (fun c25 => ?_) (fun c25 => ?_)
    · -- 24
      refine hX.1 1 _ rfl _ _ _ _ ?_
      refine hX.1 2 _ rfl _ _ _ _ ?_
      refine k_X9_right n e f0 _ _ _ _ (rg_w (c := 0) (d := 1) (rg_c (a := 0) (b := 0) (by decide +kernel)) (by decide +kernel)) hI (fun f27 gf27 hI28 => ?_)
      refine And.intro (fun c29 => ?_) (fun c29 => ?_)
      · -- 40
        refine hX.1 3 _ rfl _ _ _ _ ?_
        refine hX.1 4 _ rfl _ _ _ _ ?_
        exact And.intro mRt_i (hK _ _ _ (rg_w (c := 0) (d := 255) (rg_c (a := 0) (b := 0) (by decide +kernel)) (by decide +kernel)) hI28)
      · -- on
        exact (rg_no (show rg 1 0 _ from (rg_neN (rg_c (a := 0) (b := 0) (by decide +kernel)) (rg_c (a := 0) (b := 0) (by decide +kernel)) c29 (by decide +kernel))) (by decide +kernel)).elim
    · -- on
      refine And.intro (fun c30 => ?_) (fun c30 => ?_)
      · -- 24
        refine hX.1 1 _ rfl _ _ _ _ ?_
        refine hX.1 2 _ rfl _ _ _ _ ?_
        refine k_X9_right n e f0 _ _ _ _ (rg_w (c := 0) (d := 1) (rg_c (a := 0) (b := 0) (by decide +kernel)) (by decide +kernel)) hI (fun f32 gf32 hI33 => ?_)
        refine And.intro (fun c34 => ?_) (fun c34 => ?_)
        · -- 40
          refine hX.1 3 _ rfl _ _ _ _ ?_
          refine hX.1 4 _ rfl _ _ _ _ ?_
          exact And.intro mRt_i (hK _ _ _ (rg_w (c := 0) (d := 255) (rg_c (a := 0) (b := 0) (by decide +kernel)) (by decide +kernel)) hI33)
        · -- on
          exact (rg_no (show rg 1 0 _ from (rg_neN (rg_c (a := 0) (b := 0) (by decide +kernel)) (rg_c (a := 0) (b := 0) (by decide +kernel)) c34 (by decide +kernel))) (by decide +kernel)).elim
      · -- on
        refine hX.1 2 _ rfl _ _ _ _ ?_
        refine k_X9_right n e f0 _ _ _ _ (rg_w (c := 0) (d := 1) (rg_c (a := 1) (b := 1) (by decide +kernel)) (by decide +kernel)) hI (fun f36 gf36 hI37 => ?_)
        refine And.intro (fun c38 => ?_) (fun c38 => ?_)
        · -- 40
          exact (rg_no (show rg 1 0 _ from (rg_eqN (rg_c (a := 1) (b := 1) (by decide +kernel)) (rg_c (a := 0) (b := 0) (by decide +kernel)) c38 (by decide +kernel))) (by decide +kernel)).elim
        · -- on
          refine And.intro (rg_in (show rg 0 999 _ from (rg_lt (show rg 0 2147483646 _ from (rg_lt (show rg 0 2147483647 _ from (rg_ge (rg_all _) (rg_c (a := 0) (b := 0) (by decide +kernel)) (rg_nlt c20) (by decide +kernel))) (gI_s hI 13 36 0 2147483647 rfl) (rg_nle c25) (by decide +kernel))) (rg_c (a := 1000) (b := 1000) (by decide +kernel)) (rg_nle c30) (by decide +kernel))) (by decide +kernel)) ?_
          refine hX.1 4 _ rfl _ _ _ _ ?_
          exact And.intro mRt_i (hK _ _ _ (rg_w (c := 0) (d := 255) (gI_g hI37 6 7 1000 0 255 rfl (rg_in (show rg 0 999 _ from (rg_lt (show rg 0 2147483646 _ from (rg_lt (show rg 0 2147483647 _ from (rg_ge (rg_all _) (rg_c (a := 0) (b := 0) (by decide +kernel)) (rg_nlt c20) (by decide +kernel))) (gI_s hI 13 36 0 2147483647 rfl) (rg_nle c25) (by decide +kernel))) (rg_c (a := 1000) (b := 1000) (by decide +kernel)) (rg_nle c30) (by decide +kernel))) (by decide +kernel))) (by decide +kernel)) hI37)
def SPX9_host (S : mSp) : Prop := ∀ (n e : Int) (f0 f : mFn) (g : mGn) (K : mKr) (x1 : Int32), rI n e f0 f g → (∀ (y : Int32) (f' : mFn) (g' : mGn), rg (-1) 300 y → rI n e f0 f' g' → K (some (.inl y)) f' g') → S [.inr 0, .inl x1] f g K
set_option maxRecDepth 100000 in
set_option maxHeartbeats 4000000 in
theorem sfX9_host : SPX9_host spX9_host := by
  intro n e f0 f g K x1  hI hK
  refine ⟨rfl, fun X hX => ?_⟩
  refine hX.1 0 _ rfl _ _ _ _ ?_
  refine And.intro (fun c6 => ?_) (fun c6 => ?_)
  · -- 17
    refine hX.1 1 _ rfl _ _ _ _ ?_
    refine And.intro (rg_in (show rg 0 299 _ from (rg_neH (gI_s (rP1 0 (rg_w (c := 0) (d := 1) (rg_c (a := 0) (b := 0) (by decide +kernel)) (by decide +kernel)) hI (by decide +kernel)) 12 35 0 300 rfl) (rg_c (a := 300) (b := 300) (by decide +kernel)) c6 (by decide +kernel))) (by decide +kernel)) ?_
    exact And.intro mRt_i (hK _ _ _ (rg_w (c := (-1)) (d := 300) (gI_s (rP1 12 (rg_w (c := 0) (d := 300) (show rg 1 300 _ from (rg_add (show rg 0 299 _ from (rg_neH (gI_s (rP1 0 (rg_w (c := 0) (d := 1) (rg_c (a := 0) (b := 0) (by decide +kernel)) (by decide +kernel)) hI (by decide +kernel)) 12 35 0 300 rfl) (rg_c (a := 300) (b := 300) (by decide +kernel)) c6 (by decide +kernel))) (rg_c (a := 1) (b := 1) (by decide +kernel)) (by decide +kernel))) (by decide +kernel)) (rP1 0 (rg_w (c := 0) (d := 1) (rg_c (a := 0) (b := 0) (by decide +kernel)) (by decide +kernel)) hI (by decide +kernel)) (by decide +kernel)) 12 35 0 300 rfl) (by decide +kernel)) (rP1 12 (rg_w (c := 0) (d := 300) (show rg 1 300 _ from (rg_add (show rg 0 299 _ from (rg_neH (gI_s (rP1 0 (rg_w (c := 0) (d := 1) (rg_c (a := 0) (b := 0) (by decide +kernel)) (by decide +kernel)) hI (by decide +kernel)) 12 35 0 300 rfl) (rg_c (a := 300) (b := 300) (by decide +kernel)) c6 (by decide +kernel))) (rg_c (a := 1) (b := 1) (by decide +kernel)) (by decide +kernel))) (by decide +kernel)) (gI_a1 (rP1 0 (rg_w (c := 0) (d := 1) (rg_c (a := 0) (b := 0) (by decide +kernel)) (by decide +kernel)) hI (by decide +kernel)) 5 300 (lo := 0) (hi := 255) (rg_w (c := 0) (d := 255) (show rg 0 255 _ from (rg_andR (rg_c (a := 255) (b := 255) (by decide +kernel)) (by decide +kernel))) (by decide +kernel)) (by decide +kernel)) (by decide +kernel)))
  · -- on
    exact And.intro mRt_i (hK _ _ _ (rg_w (c := (-1)) (d := 300) (rg_c (a := (-1)) (b := (-1)) (by decide +kernel)) (by decide +kernel)) (rP1 0 (rg_w (c := 0) (d := 1) (rg_c (a := 0) (b := 0) (by decide +kernel)) (by decide +kernel)) hI (by decide +kernel)))
def SPX9_product (S : mSp) : Prop := ∀ (n e : Int) (f0 f : mFn) (g : mGn) (K : mKr) (x1 : Int32) (x2 : Int32), rg 0 1 x2 → rI n e f0 f g → (∀ (f' : mFn) (g' : mGn), rI n e f0 f' g' → K none f' g') → S [.inr 0, .inl x1, .inl x2] f g K
set_option maxRecDepth 100000 in
set_option maxHeartbeats 4000000 in
theorem sfX9_product : SPX9_product spX9_product := by
  intro n e f0 f g K x1 x2 hx2 hI hK
  refine ⟨rfl, fun X hX => ?_⟩
  obtain ⟨S_X9_setFlag, k_X9_setFlag, S_X9_setPointer, k_X9_setPointer, hX⟩ : ∃ S_X9_setFlag, SPX9_setFlag S_X9_setFlag ∧ ∃ S_X9_setPointer, SPX9_setPointer S_X9_setPointer ∧ mR shM fdX9_product [(172, 0, 2, 12, S_X9_setFlag), (238, 0, 2, 12, S_X9_setPointer)] bsX9_product (fun r f g => mRt none r ∧ K r f g) X := ⟨spX9_setFlag, sfX9_setFlag, spX9_setPointer, sfX9_setPointer, hX⟩
  have b50 : ∀ (s1 : Int32) (s2 : Int32) (f : mFn) (g : mGn), rg 1 1 s1 → rg 0 1 s2 → rI n e f0 f g → X 50 [] [.inl s2, .inl s1, .inr 0] f g := by
    intro s1 s2 f g hs1 hs2 hI
    refine hX.1 6 _ rfl _ _ _ _ ?_
    refine k_X9_setFlag n e f0 _ _ _ _ _ (rg_w (c := 0) (d := 7) hs1 (by decide +kernel)) (rg_w (c := 0) (d := 1) hs2 (by decide +kernel)) hI (fun f14 gf14 hI15 => ?_)
    exact And.intro mRt_v (hK _ _ hI15)
  have b29 : ∀ (s0 : Int32) (f : mFn) (g : mGn), rI n e f0 f g → X 29 [(0, .inr 0)] [.inl s0] f g := by
    intro s0 f g  hI
    refine hX.1 4 _ rfl _ _ _ _ ?_
    refine k_X9_setPointer n e f0 _ _ _ _ _ (rg_w (c := 0) (d := 93) (rg_c (a := 0) (b := 0) (by decide +kernel)) (by decide +kernel)) (rg_w (c := (-1)) (d := 65536) (show rg 0 65535 _ from (rg_andR (rg_c (a := 65535) (b := 65535) (by decide +kernel)) (by decide +kernel))) (by decide +kernel)) hI (fun f17 gf17 hI18 => ?_)
    refine And.intro (fun c19 => ?_) (fun c19 => ?_)
    · -- 49
      refine hX.1 5 _ rfl _ _ _ _ ?_
      exact hX.2 _ _ [] _ _ _ mW0 (b50 _ _ _ _ (rg_w (c := 1) (d := 1) (rg_c (a := 1) (b := 1) (by decide +kernel)) (by decide +kernel)) (rg_w (c := 0) (d := 1) (rg_c (a := 0) (b := 0) (by decide +kernel)) (by decide +kernel)) hI18)
    · -- on
      exact hX.2 _ _ [] _ _ _ mW0 (b50 _ _ _ _ (rg_w (c := 1) (d := 1) (rg_c (a := 1) (b := 1) (by decide +kernel)) (by decide +kernel)) (rg_w (c := 0) (d := 1) (rg_c (a := 1) (b := 1) (by decide +kernel)) (by decide +kernel)) hI18)
  have b15 : ∀ (a1 : Int32) (a2 : Int32) (s1 : Int32) (s2 : Int32) (f : mFn) (g : mGn), rg 0 1 a2 → rg 0 0 s1 → rg 0 1 s2 → rI n e f0 f g → X 15 [(0, .inr 0), (1, .inl a1), (2, .inl a2)] [.inl s2, .inl s1, .inr 0] f g := by
    intro a1 a2 s1 s2 f g ha2 hs1 hs2 hI
    refine hX.1 2 _ rfl _ _ _ _ ?_
    refine k_X9_setFlag n e f0 _ _ _ _ _ (rg_w (c := 0) (d := 7) hs1 (by decide +kernel)) (rg_w (c := 0) (d := 1) hs2 (by decide +kernel)) hI (fun f21 gf21 hI22 => ?_)
    refine And.intro (fun c23 => ?_) (fun c23 => ?_)
    · -- 28
      refine hX.1 3 _ rfl _ _ _ _ ?_
      exact hX.2 _ _ [(0, .inr 0)] _ _ _ (mWc rfl mW0) (b29 _ _ _  hI22)
    · -- on
      exact hX.2 _ _ [(0, .inr 0)] _ _ _ (mWc rfl mW0) (b29 _ _ _  hI22)
  refine hX.1 0 _ rfl _ _ _ _ ?_
  refine And.intro (fun c24 => ?_) (fun c24 => ?_)
  · -- 14
    refine hX.1 1 _ rfl _ _ _ _ ?_
    exact hX.2 _ _ [(0, .inr 0), (1, .inl _), (2, .inl _)] _ _ _ (mWc rfl (mWc rfl (mWc rfl mW0))) (b15 _ _ _ _ _ _ (rg_w (c := 0) (d := 1) hx2 (by decide +kernel)) (rg_w (c := 0) (d := 0) (rg_c (a := 0) (b := 0) (by decide +kernel)) (by decide +kernel)) (rg_w (c := 0) (d := 1) (rg_c (a := 0) (b := 0) (by decide +kernel)) (by decide +kernel)) hI)
  · -- on
    exact hX.2 _ _ [(0, .inr 0), (1, .inl _), (2, .inl _)] _ _ _ (mWc rfl (mWc rfl (mWc rfl mW0))) (b15 _ _ _ _ _ _ (rg_w (c := 0) (d := 1) hx2 (by decide +kernel)) (rg_w (c := 0) (d := 0) (rg_c (a := 0) (b := 0) (by decide +kernel)) (by decide +kernel)) (rg_w (c := 0) (d := 1) (rg_c (a := 1) (b := 1) (by decide +kernel)) (by decide +kernel)) hI)
def SPX9_moves (S : mSp) : Prop := ∀ (n e : Int) (f0 f : mFn) (g : mGn) (K : mKr) (x1 : Int32), rg 0 65535 x1 → rI n e f0 f g → (∀ (y : Int32) (f' : mFn) (g' : mGn), rg 1 2 y → rI n e f0 f' g' → K (some (.inl y)) f' g') → S [.inr 0, .inl x1] f g K
set_option maxRecDepth 100000 in
set_option maxHeartbeats 4000000 in
theorem sfX9_moves : SPX9_moves spX9_moves := by
  intro n e f0 f g K x1 hx1 hI hK
  refine ⟨rfl, fun X hX => ?_⟩
  obtain ⟨S_X9_signed, k_X9_signed, S_X9_product, k_X9_product, hX⟩ : ∃ S_X9_signed, SPX9_signed S_X9_signed ∧ ∃ S_X9_product, SPX9_product S_X9_product ∧ mR shM fdX9_moves [(250, 1, 1, 0, S_X9_signed), (305, 0, 2, 12, S_X9_product)] bsX9_moves (fun r f g => mRt (some .int) r ∧ K r f g) X := ⟨spX9_signed, sfX9_signed, spX9_product, sfX9_product, hX⟩
  have b208 : ∀ (s1 : Int32) (s2 : Int32) (f : mFn) (g : mGn), rg 0 1 s2 → rI n e f0 f g → X 208 [] [.inl s2, .inl s1, .inr 0] f g := by
    intro s1 s2 f g hs2 hI
    refine hX.1 9 _ rfl _ _ _ _ ?_
    refine k_X9_product n e f0 _ _ _ _ _ (rg_w (c := 0) (d := 1) hs2 (by decide +kernel)) hI (fun f28 gf28 hI29 => ?_)
    exact And.intro mRt_i (hK _ _ _ (rg_w (c := 1) (d := 2) (rg_c (a := 2) (b := 2) (by decide +kernel)) (by decide +kernel)) hI29)
  have b197 : ∀ (a8 : Int32) (s1 : Int32) (s2 : Int32) (f : mFn) (g : mGn), rg 0 3 a8 → rg (-128) 255 s1 → rg (-128) 255 s2 → rI n e f0 f g → X 197 [(8, .inl a8)] [.inl s2, .inl s1, .inr 0] f g := by
    intro a8 s1 s2 f g ha8 hs1 hs2 hI
    refine hX.1 7 _ rfl _ _ _ _ ?_
    refine And.intro (fun c30 => ?_) (fun c30 => ?_)
    · -- 207
      refine hX.1 8 _ rfl _ _ _ _ ?_
      exact hX.2 _ _ [] _ _ _ mW0 (b208 _ _ _ _ (rg_w (c := 0) (d := 1) (rg_c (a := 0) (b := 0) (by decide +kernel)) (by decide +kernel)) hI)
    · -- on
      exact hX.2 _ _ [] _ _ _ mW0 (b208 _ _ _ _ (rg_w (c := 0) (d := 1) (rg_c (a := 1) (b := 1) (by decide +kernel)) (by decide +kernel)) hI)
  have b181 : ∀ (a7 : Int32) (a8 : Int32) (s1 : Int32) (f : mFn) (g : mGn), rg 0 255 a7 → rg 0 3 a8 → rg (-128) 255 s1 → rI n e f0 f g → X 181 [(7, .inl a7), (8, .inl a8)] [.inl s1, .inr 0] f g := by
    intro a7 a8 s1 f g ha7 ha8 hs1 hI
    refine hX.1 5 _ rfl _ _ _ _ ?_
    refine And.intro (fun c31 => ?_) (fun c31 => ?_)
    · -- 195
      refine hX.1 6 _ rfl _ _ _ _ ?_
      exact hX.2 _ _ [(8, .inl _)] _ _ _ (mWc rfl mW0) (b197 _ _ _ _ _ (rg_w (c := 0) (d := 3) ha8 (by decide +kernel)) (rg_w (c := (-128)) (d := 255) hs1 (by decide +kernel)) (rg_w (c := (-128)) (d := 255) ha7 (by decide +kernel)) hI)
    · -- on
      refine k_X9_signed n e f0 _ _ _ _ (rg_w (c := 0) (d := 255) ha7 (by decide +kernel)) hI (fun y32 hy32 => ?_)
      exact hX.2 _ _ [(8, .inl _)] _ _ _ (mWc rfl mW0) (b197 _ _ _ _ _ (rg_w (c := 0) (d := 3) (show rg 2 2 _ from (rg_eq (rg_c (a := 2) (b := 2) (by decide +kernel)) c31)) (by decide +kernel)) (rg_w (c := (-128)) (d := 255) hs1 (by decide +kernel)) (rg_w (c := (-128)) (d := 255) hy32 (by decide +kernel)) hI)
  refine hX.1 0 _ rfl _ _ _ _ ?_
  refine And.intro (fun c35 => ?_) (fun c35 => ?_)
  · -- 44
    refine hX.1 1 _ rfl _ _ _ _ ?_
    refine And.intro (rg_in (show rg 0 30 _ from (rg_mul (rg_c (a := 2) (b := 2) (by decide +kernel)) (show rg 0 15 _ from (rg_andR (rg_c (a := 15) (b := 15) (by decide +kernel)) (by decide +kernel))) (by decide +kernel))) (by decide +kernel)) ?_
    refine And.intro (rg_in (show rg 1 31 _ from (rg_add (show rg 0 30 _ from (rg_mul (rg_c (a := 2) (b := 2) (by decide +kernel)) (show rg 0 15 _ from (rg_andR (rg_c (a := 15) (b := 15) (by decide +kernel)) (by decide +kernel))) (by decide +kernel))) (rg_c (a := 1) (b := 1) (by decide +kernel)) (by decide +kernel))) (by decide +kernel)) ?_
    refine And.intro (rg_in (show rg 0 30 _ from (rg_mul (rg_c (a := 2) (b := 2) (by decide +kernel)) (show rg 0 15 _ from (rg_andR (rg_c (a := 15) (b := 15) (by decide +kernel)) (by decide +kernel))) (by decide +kernel))) (by decide +kernel)) ?_
    refine And.intro (rg_in (show rg 1 31 _ from (rg_add (show rg 0 30 _ from (rg_mul (rg_c (a := 2) (b := 2) (by decide +kernel)) (show rg 0 15 _ from (rg_andR (rg_c (a := 15) (b := 15) (by decide +kernel)) (by decide +kernel))) (by decide +kernel))) (rg_c (a := 1) (b := 1) (by decide +kernel)) (by decide +kernel))) (by decide +kernel)) ?_
    exact And.intro mRt_i (hK _ _ _ (rg_w (c := 1) (d := 2) (rg_c (a := 1) (b := 1) (by decide +kernel)) (by decide +kernel)) (gI_a1 (gI_a1 hI 2 1280 (lo := 0) (hi := 255) (rg_w (c := 0) (d := 255) (gI_g hI 2 3 1280 0 255 rfl (rg_in (show rg 0 30 _ from (rg_mul (rg_c (a := 2) (b := 2) (by decide +kernel)) (show rg 0 15 _ from (rg_andR (rg_c (a := 15) (b := 15) (by decide +kernel)) (by decide +kernel))) (by decide +kernel))) (by decide +kernel))) (by decide +kernel)) (by decide +kernel)) 2 1280 (lo := 0) (hi := 255) (rg_w (c := 0) (d := 255) (gI_g hI 2 3 1280 0 255 rfl (rg_in (show rg 1 31 _ from (rg_add (show rg 0 30 _ from (rg_mul (rg_c (a := 2) (b := 2) (by decide +kernel)) (show rg 0 15 _ from (rg_andR (rg_c (a := 15) (b := 15) (by decide +kernel)) (by decide +kernel))) (by decide +kernel))) (rg_c (a := 1) (b := 1) (by decide +kernel)) (by decide +kernel))) (by decide +kernel))) (by decide +kernel)) (by decide +kernel)))
  · -- on
    refine And.intro (fun c38 => ?_) (fun c38 => ?_)
    · -- 90
      refine hX.1 2 _ rfl _ _ _ _ ?_
      refine And.intro (rg_in (show rg 16 31 _ from (rg_add (rg_c (a := 16) (b := 16) (by decide +kernel)) (show rg 0 15 _ from (rg_andR (rg_c (a := 15) (b := 15) (by decide +kernel)) (by decide +kernel))) (by decide +kernel))) (by decide +kernel)) ?_
      refine k_X9_signed n e f0 _ _ _ _ (rg_w (c := 0) (d := 255) (gI_g hI 2 3 1280 0 255 rfl (rg_in (show rg 16 31 _ from (rg_add (rg_c (a := 16) (b := 16) (by decide +kernel)) (show rg 0 15 _ from (rg_andR (rg_c (a := 15) (b := 15) (by decide +kernel)) (by decide +kernel))) (by decide +kernel))) (by decide +kernel))) (by decide +kernel)) hI (fun y39 hy39 => ?_)
      refine And.intro (rg_in (show rg 16 31 _ from (rg_add (rg_c (a := 16) (b := 16) (by decide +kernel)) (show rg 0 15 _ from (rg_andR (rg_c (a := 15) (b := 15) (by decide +kernel)) (by decide +kernel))) (by decide +kernel))) (by decide +kernel)) ?_
      refine k_X9_signed n e f0 _ _ _ _ (rg_w (c := 0) (d := 255) (gI_g hI 2 3 1280 0 255 rfl (rg_in (show rg 16 31 _ from (rg_add (rg_c (a := 16) (b := 16) (by decide +kernel)) (show rg 0 15 _ from (rg_andR (rg_c (a := 15) (b := 15) (by decide +kernel)) (by decide +kernel))) (by decide +kernel))) (by decide +kernel))) (by decide +kernel)) hI (fun y42 hy42 => ?_)
      refine k_X9_product n e f0 _ _ _ _ _ (rg_w (c := 0) (d := 1) (rg_c (a := 0) (b := 0) (by decide +kernel)) (by decide +kernel)) hI (fun f46 gf46 hI47 => ?_)
      exact And.intro mRt_i (hK _ _ _ (rg_w (c := 1) (d := 2) (rg_c (a := 2) (b := 2) (by decide +kernel)) (by decide +kernel)) hI47)
    · -- on
      refine And.intro (fun c48 => ?_) (fun c48 => ?_)
      · -- 122
        refine hX.1 3 _ rfl _ _ _ _ ?_
        refine And.intro (rg_in (show rg 16 23 _ from (rg_add (rg_c (a := 16) (b := 16) (by decide +kernel)) (show rg 0 7 _ from (rg_andR (rg_c (a := 7) (b := 7) (by decide +kernel)) (by decide +kernel))) (by decide +kernel))) (by decide +kernel)) ?_
        refine And.intro (rg_in (show rg 16 23 _ from (rg_add (rg_c (a := 16) (b := 16) (by decide +kernel)) (show rg 0 7 _ from (rg_andR (rg_c (a := 7) (b := 7) (by decide +kernel)) (by decide +kernel))) (by decide +kernel))) (by decide +kernel)) ?_
        refine And.intro (fun c49 => ?_) (fun c49 => ?_)
        · -- 176
          refine hX.1 4 _ rfl _ _ _ _ ?_
          refine k_X9_signed n e f0 _ _ _ _ (rg_w (c := 0) (d := 255) (gI_g hI 2 3 1280 0 255 rfl (rg_in (show rg 16 23 _ from (rg_add (rg_c (a := 16) (b := 16) (by decide +kernel)) (show rg 0 7 _ from (rg_andR (rg_c (a := 7) (b := 7) (by decide +kernel)) (by decide +kernel))) (by decide +kernel))) (by decide +kernel))) (by decide +kernel)) hI (fun y50 hy50 => ?_)
          exact hX.2 _ _ [(7, .inl _), (8, .inl _)] _ _ _ (mWc rfl (mWc rfl mW0)) (b181 _ _ _ _ _ (rg_w (c := 0) (d := 255) (gI_g hI 2 3 1280 0 255 rfl (rg_in (show rg 16 23 _ from (rg_add (rg_c (a := 16) (b := 16) (by decide +kernel)) (show rg 0 7 _ from (rg_andR (rg_c (a := 7) (b := 7) (by decide +kernel)) (by decide +kernel))) (by decide +kernel))) (by decide +kernel))) (by decide +kernel)) (rg_w (c := 0) (d := 3) (show rg 0 3 _ from (rg_or (k := 2) (show rg 0 2 _ from (rg_andR (rg_c (a := 2) (b := 2) (by decide +kernel)) (by decide +kernel))) (show rg 0 1 _ from (rg_andR (rg_c (a := 1) (b := 1) (by decide +kernel)) (by decide +kernel))) (by decide +kernel))) (by decide +kernel)) (rg_w (c := (-128)) (d := 255) hy50 (by decide +kernel)) hI)
        · -- on
          exact hX.2 _ _ [(7, .inl _), (8, .inl _)] _ _ _ (mWc rfl (mWc rfl mW0)) (b181 _ _ _ _ _ (rg_w (c := 0) (d := 255) (gI_g hI 2 3 1280 0 255 rfl (rg_in (show rg 16 23 _ from (rg_add (rg_c (a := 16) (b := 16) (by decide +kernel)) (show rg 0 7 _ from (rg_andR (rg_c (a := 7) (b := 7) (by decide +kernel)) (by decide +kernel))) (by decide +kernel))) (by decide +kernel))) (by decide +kernel)) (rg_w (c := 0) (d := 3) (show rg 1 1 _ from (rg_eq (rg_c (a := 1) (b := 1) (by decide +kernel)) c49)) (by decide +kernel)) (rg_w (c := (-128)) (d := 255) (gI_g hI 2 3 1280 0 255 rfl (rg_in (show rg 16 23 _ from (rg_add (rg_c (a := 16) (b := 16) (by decide +kernel)) (show rg 0 7 _ from (rg_andR (rg_c (a := 7) (b := 7) (by decide +kernel)) (by decide +kernel))) (by decide +kernel))) (by decide +kernel))) (by decide +kernel)) hI)
      · -- on
        refine hX.1 10 _ rfl _ _ _ _ ?_
        exact And.intro mRt_i (hK _ _ _ (rg_w (c := 1) (d := 2) (rg_c (a := 1) (b := 1) (by decide +kernel)) (by decide +kernel)) hI)
def SPX9_subtract (S : mSp) : Prop := ∀ (n e : Int) (f0 f : mFn) (g : mGn) (K : mKr) (x1 : Int32) (x2 : Int32) (x3 : Int32) (x4 : Int32), rg 0 255 x1 → rg 0 255 x2 → rg 0 1 x3 → rg 0 1 x4 → rI n e f0 f g → (∀ (y : Int32) (f' : mFn) (g' : mGn), rg 0 255 y → rI n e f0 f' g' → K (some (.inl y)) f' g') → S [.inr 0, .inl x1, .inl x2, .inl x3, .inl x4] f g K
set_option maxRecDepth 100000 in
set_option maxHeartbeats 4000000 in
theorem sfX9_subtract : SPX9_subtract spX9_subtract := by
  intro n e f0 f g K x1 x2 x3 x4 hx1 hx2 hx3 hx4 hI hK
  refine ⟨rfl, fun X hX => ?_⟩
  obtain ⟨S_X9_flag, k_X9_flag, S_X9_signed, k_X9_signed, S_X9_setFlag, k_X9_setFlag, S_X9_zero, k_X9_zero, hX⟩ : ∃ S_X9_flag, SPX9_flag S_X9_flag ∧ ∃ S_X9_signed, SPX9_signed S_X9_signed ∧ ∃ S_X9_setFlag, SPX9_setFlag S_X9_setFlag ∧ ∃ S_X9_zero, SPX9_zero S_X9_zero ∧ mR shM fdX9_subtract [(163, 0, 1, 12, S_X9_flag), (250, 1, 1, 0, S_X9_signed), (172, 0, 2, 12, S_X9_setFlag), (253, 0, 1, 12, S_X9_zero)] bsX9_subtract (fun r f g => mRt (some .int) r ∧ K r f g) X := ⟨spX9_flag, sfX9_flag, spX9_signed, sfX9_signed, spX9_setFlag, sfX9_setFlag, spX9_zero, sfX9_zero, hX⟩
  have b128 : ∀ (a6 : Int32) (f : mFn) (g : mGn), rg 0 255 a6 → rI n e f0 f g → X 128 [(6, .inl a6)] [] f g := by
    intro a6 f g ha6 hI
    refine hX.1 10 _ rfl _ _ _ _ ?_
    exact And.intro mRt_i (hK _ _ _ (rg_w (c := 0) (d := 255) ha6 (by decide +kernel)) hI)
  have b125 : ∀ (a6 : Int32) (s1 : Int32) (s2 : Int32) (f : mFn) (g : mGn), rg 0 255 a6 → rg 1 1 s1 → rg 0 1 s2 → rI n e f0 f g → X 125 [(6, .inl a6)] [.inl s2, .inl s1, .inr 0] f g := by
    intro a6 s1 s2 f g ha6 hs1 hs2 hI
    refine hX.1 9 _ rfl _ _ _ _ ?_
    refine k_X9_setFlag n e f0 _ _ _ _ _ (rg_w (c := 0) (d := 7) hs1 (by decide +kernel)) (rg_w (c := 0) (d := 1) hs2 (by decide +kernel)) hI (fun f33 gf33 hI34 => ?_)
    exact hX.2 _ _ [(6, .inl _)] _ _ _ (mWc rfl mW0) (b128 _ _ _ (rg_w (c := 0) (d := 255) ha6 (by decide +kernel)) hI34)
  have b124 : ∀ (a6 : Int32) (s1 : Int32) (f : mFn) (g : mGn), rg 0 255 a6 → rg 1 1 s1 → rI n e f0 f g → X 124 [(6, .inl a6)] [.inl s1, .inr 0] f g := by
    intro a6 s1 f g ha6 hs1 hI
    refine hX.1 8 _ rfl _ _ _ _ ?_
    exact hX.2 _ _ [(6, .inl _)] _ _ _ (mWc rfl mW0) (b125 _ _ _ _ _ (rg_w (c := 0) (d := 255) ha6 (by decide +kernel)) (rg_w (c := 1) (d := 1) hs1 (by decide +kernel)) (rg_w (c := 0) (d := 1) (rg_c (a := 0) (b := 0) (by decide +kernel)) (by decide +kernel)) hI)
  have b94 : ∀ (a4 : Int32) (a5 : Int32) (a6 : Int32) (s1 : Int32) (s2 : Int32) (f : mFn) (g : mGn), rg 0 1 a4 → rg 0 1 a5 → rg 0 255 a6 → rg 3 3 s1 → rg 0 1 s2 → rI n e f0 f g → X 94 [(0, .inr 0), (4, .inl a4), (5, .inl a5), (6, .inl a6)] [.inl s2, .inl s1, .inr 0] f g := by
    intro a4 a5 a6 s1 s2 f g ha4 ha5 ha6 hs1 hs2 hI
    refine hX.1 7 _ rfl _ _ _ _ ?_
    refine k_X9_setFlag n e f0 _ _ _ _ _ (rg_w (c := 0) (d := 7) hs1 (by decide +kernel)) (rg_w (c := 0) (d := 1) hs2 (by decide +kernel)) hI (fun f36 gf36 hI37 => ?_)
    refine k_X9_zero n e f0 _ _ _ _ (rg_w (c := 0) (d := 255) ha6 (by decide +kernel)) hI37 (fun f39 gf39 hI40 => ?_)
    refine And.intro (fun c41 => ?_) (fun c41 => ?_)
    · -- 128
      exact hX.2 _ _ [(6, .inl _)] _ _ _ (mWc rfl mW0) (b128 _ _ _ (rg_w (c := 0) (d := 255) ha6 (by decide +kernel)) hI40)
    · -- on
      refine And.intro (fun c42 => ?_) (fun c42 => ?_)
      · -- 124
        exact hX.2 _ _ [(6, .inl _)] _ _ _ (mWc rfl mW0) (b124 _ _ _ _ (rg_w (c := 0) (d := 255) (show rg 1 255 _ from (rg_neL ha6 (rg_c (a := 0) (b := 0) (by decide +kernel)) c42 (by decide +kernel))) (by decide +kernel)) (rg_w (c := 1) (d := 1) (rg_c (a := 1) (b := 1) (by decide +kernel)) (by decide +kernel)) hI40)
      · -- on
        refine And.intro (fun c43 => ?_) (fun c43 => ?_)
        · -- 124
          exact hX.2 _ _ [(6, .inl _)] _ _ _ (mWc rfl mW0) (b124 _ _ _ _ (rg_w (c := 0) (d := 255) (show rg 0 0 _ from (rg_eq (rg_c (a := 0) (b := 0) (by decide +kernel)) c42)) (by decide +kernel)) (rg_w (c := 1) (d := 1) (rg_c (a := 1) (b := 1) (by decide +kernel)) (by decide +kernel)) hI40)
        · -- on
          exact hX.2 _ _ [(6, .inl _)] _ _ _ (mWc rfl mW0) (b125 _ _ _ _ _ (rg_w (c := 0) (d := 255) (show rg 0 0 _ from (rg_eq (rg_c (a := 0) (b := 0) (by decide +kernel)) c42)) (by decide +kernel)) (rg_w (c := 1) (d := 1) (rg_c (a := 1) (b := 1) (by decide +kernel)) (by decide +kernel)) (rg_w (c := 0) (d := 1) (rg_c (a := 1) (b := 1) (by decide +kernel)) (by decide +kernel)) hI40)
  have b89 : ∀ (a4 : Int32) (a5 : Int32) (a6 : Int32) (s1 : Int32) (f : mFn) (g : mGn), rg 0 1 a4 → rg 0 1 a5 → rg 0 255 a6 → rg 3 3 s1 → rI n e f0 f g → X 89 [(0, .inr 0), (4, .inl a4), (5, .inl a5), (6, .inl a6)] [.inl s1, .inr 0] f g := by
    intro a4 a5 a6 s1 f g ha4 ha5 ha6 hs1 hI
    refine hX.1 5 _ rfl _ _ _ _ ?_
    exact hX.2 _ _ [(0, .inr 0), (4, .inl _), (5, .inl _), (6, .inl _)] _ _ _ (mWc rfl (mWc rfl (mWc rfl (mWc rfl mW0)))) (b94 _ _ _ _ _ _ _ (rg_w (c := 0) (d := 1) ha4 (by decide +kernel)) (rg_w (c := 0) (d := 1) ha5 (by decide +kernel)) (rg_w (c := 0) (d := 255) ha6 (by decide +kernel)) (rg_w (c := 3) (d := 3) hs1 (by decide +kernel)) (rg_w (c := 0) (d := 1) (rg_c (a := 1) (b := 1) (by decide +kernel)) (by decide +kernel)) hI)
  have b70 : ∀ (a4 : Int32) (a5 : Int32) (a6 : Int32) (a7 : Int32) (s1 : Int32) (s2 : Int32) (f : mFn) (g : mGn), rg 0 1 a4 → rg 0 1 a5 → rg 0 255 a6 → rg (-256) 255 a7 → rg 0 0 s1 → rg 0 1 s2 → rI n e f0 f g → X 70 [(0, .inr 0), (4, .inl a4), (5, .inl a5), (6, .inl a6), (7, .inl a7)] [.inl s2, .inl s1, .inr 0] f g := by
    intro a4 a5 a6 a7 s1 s2 f g ha4 ha5 ha6 ha7 hs1 hs2 hI
    refine hX.1 4 _ rfl _ _ _ _ ?_
    refine k_X9_setFlag n e f0 _ _ _ _ _ (rg_w (c := 0) (d := 7) hs1 (by decide +kernel)) (rg_w (c := 0) (d := 1) hs2 (by decide +kernel)) hI (fun f45 gf45 hI46 => ?_)
    refine And.intro (fun c47 => ?_) (fun c47 => ?_)
    · -- 89
      exact hX.2 _ _ [(0, .inr 0), (4, .inl _), (5, .inl _), (6, .inl _)] _ _ _ (mWc rfl (mWc rfl (mWc rfl (mWc rfl mW0)))) (b89 _ _ _ _ _ _ (rg_w (c := 0) (d := 1) ha4 (by decide +kernel)) (rg_w (c := 0) (d := 1) ha5 (by decide +kernel)) (rg_w (c := 0) (d := 255) ha6 (by decide +kernel)) (rg_w (c := 3) (d := 3) (rg_c (a := 3) (b := 3) (by decide +kernel)) (by decide +kernel)) hI46)
    · -- on
      refine And.intro (fun c48 => ?_) (fun c48 => ?_)
      · -- 93
        refine hX.1 6 _ rfl _ _ _ _ ?_
        exact hX.2 _ _ [(0, .inr 0), (4, .inl _), (5, .inl _), (6, .inl _)] _ _ _ (mWc rfl (mWc rfl (mWc rfl (mWc rfl mW0)))) (b94 _ _ _ _ _ _ _ (rg_w (c := 0) (d := 1) ha4 (by decide +kernel)) (rg_w (c := 0) (d := 1) ha5 (by decide +kernel)) (rg_w (c := 0) (d := 255) ha6 (by decide +kernel)) (rg_w (c := 3) (d := 3) (rg_c (a := 3) (b := 3) (by decide +kernel)) (by decide +kernel)) (rg_w (c := 0) (d := 1) (rg_c (a := 0) (b := 0) (by decide +kernel)) (by decide +kernel)) hI46)
      · -- on
        exact hX.2 _ _ [(0, .inr 0), (4, .inl _), (5, .inl _), (6, .inl _)] _ _ _ (mWc rfl (mWc rfl (mWc rfl (mWc rfl mW0)))) (b89 _ _ _ _ _ _ (rg_w (c := 0) (d := 1) ha4 (by decide +kernel)) (rg_w (c := 0) (d := 1) ha5 (by decide +kernel)) (rg_w (c := 0) (d := 255) ha6 (by decide +kernel)) (rg_w (c := 3) (d := 3) (rg_c (a := 3) (b := 3) (by decide +kernel)) (by decide +kernel)) hI46)
  have b52 : ∀ (a1 : Int32) (a2 : Int32) (a3 : Int32) (a4 : Int32) (a5 : Int32) (a6 : Int32) (a7 : Int32) (s1 : Int32) (s2 : Int32) (f : mFn) (g : mGn), rg 0 255 a1 → rg 0 255 a2 → rg 0 1 a3 → rg 0 1 a4 → rg 0 1 a5 → rg 0 255 a6 → rg (-256) 255 a7 → rg 5 5 s1 → rg 0 1 s2 → rI n e f0 f g → X 52 [(0, .inr 0), (1, .inl a1), (2, .inl a2), (3, .inl a3), (4, .inl a4), (5, .inl a5), (6, .inl a6), (7, .inl a7)] [.inl s2, .inl s1, .inr 0] f g := by
    intro a1 a2 a3 a4 a5 a6 a7 s1 s2 f g ha1 ha2 ha3 ha4 ha5 ha6 ha7 hs1 hs2 hI
    refine hX.1 2 _ rfl _ _ _ _ ?_
    refine k_X9_setFlag n e f0 _ _ _ _ _ (rg_w (c := 0) (d := 7) hs1 (by decide +kernel)) (rg_w (c := 0) (d := 1) hs2 (by decide +kernel)) hI (fun f50 gf50 hI51 => ?_)
    refine And.intro (fun c52 => ?_) (fun c52 => ?_)
    · -- 69
      refine hX.1 3 _ rfl _ _ _ _ ?_
      exact hX.2 _ _ [(0, .inr 0), (4, .inl _), (5, .inl _), (6, .inl _), (7, .inl _)] _ _ _ (mWc rfl (mWc rfl (mWc rfl (mWc rfl (mWc rfl mW0))))) (b70 _ _ _ _ _ _ _ _ (rg_w (c := 0) (d := 1) ha4 (by decide +kernel)) (rg_w (c := 0) (d := 1) ha5 (by decide +kernel)) (rg_w (c := 0) (d := 255) ha6 (by decide +kernel)) (rg_w (c := (-256)) (d := 255) ha7 (by decide +kernel)) (rg_w (c := 0) (d := 0) (rg_c (a := 0) (b := 0) (by decide +kernel)) (by decide +kernel)) (rg_w (c := 0) (d := 1) (rg_c (a := 0) (b := 0) (by decide +kernel)) (by decide +kernel)) hI51)
    · -- on
      exact hX.2 _ _ [(0, .inr 0), (4, .inl _), (5, .inl _), (6, .inl _), (7, .inl _)] _ _ _ (mWc rfl (mWc rfl (mWc rfl (mWc rfl (mWc rfl mW0))))) (b70 _ _ _ _ _ _ _ _ (rg_w (c := 0) (d := 1) ha4 (by decide +kernel)) (rg_w (c := 0) (d := 1) ha5 (by decide +kernel)) (rg_w (c := 0) (d := 255) ha6 (by decide +kernel)) (rg_w (c := (-256)) (d := 255) ha7 (by decide +kernel)) (rg_w (c := 0) (d := 0) (rg_c (a := 0) (b := 0) (by decide +kernel)) (by decide +kernel)) (rg_w (c := 0) (d := 1) (rg_c (a := 1) (b := 1) (by decide +kernel)) (by decide +kernel)) hI51)
  refine hX.1 0 _ rfl _ _ _ _ ?_
  refine k_X9_flag n e f0 _ _ _ _ (rg_w (c := 0) (d := 7) (rg_c (a := 1) (b := 1) (by decide +kernel)) (by decide +kernel)) hI (fun y53 hy53 => ?_)
  refine k_X9_signed n e f0 _ _ _ _ (rg_w (c := 0) (d := 255) hx1 (by decide +kernel)) hI (fun y56 hy56 => ?_)
  refine k_X9_signed n e f0 _ _ _ _ (rg_w (c := 0) (d := 255) hx2 (by decide +kernel)) hI (fun y59 hy59 => ?_)
  refine And.intro (fun c62 => ?_) (fun c62 => ?_)
  · -- 51
    refine hX.1 1 _ rfl _ _ _ _ ?_
    exact hX.2 _ _ [(0, .inr 0), (1, .inl _), (2, .inl _), (3, .inl _), (4, .inl _), (5, .inl _), (6, .inl _), (7, .inl _)] _ _ _ (mWc rfl (mWc rfl (mWc rfl (mWc rfl (mWc rfl (mWc rfl (mWc rfl (mWc rfl mW0)))))))) (b52 _ _ _ _ _ _ _ _ _ _ _ (rg_w (c := 0) (d := 255) hx1 (by decide +kernel)) (rg_w (c := 0) (d := 255) hx2 (by decide +kernel)) (rg_w (c := 0) (d := 1) hx3 (by decide +kernel)) (rg_w (c := 0) (d := 1) hx4 (by decide +kernel)) (rg_w (c := 0) (d := 1) hy53 (by decide +kernel)) (rg_w (c := 0) (d := 255) (show rg 0 255 _ from (rg_andR (rg_c (a := 255) (b := 255) (by decide +kernel)) (by decide +kernel))) (by decide +kernel)) (rg_w (c := (-256)) (d := 255) (show rg (-256) 255 _ from (rg_sub (show rg (-255) 255 _ from (rg_sub hy56 hy59 (by decide +kernel))) hx3 (by decide +kernel))) (by decide +kernel)) (rg_w (c := 5) (d := 5) (rg_c (a := 5) (b := 5) (by decide +kernel)) (by decide +kernel)) (rg_w (c := 0) (d := 1) (rg_c (a := 0) (b := 0) (by decide +kernel)) (by decide +kernel)) hI)
  · -- on
    exact hX.2 _ _ [(0, .inr 0), (1, .inl _), (2, .inl _), (3, .inl _), (4, .inl _), (5, .inl _), (6, .inl _), (7, .inl _)] _ _ _ (mWc rfl (mWc rfl (mWc rfl (mWc rfl (mWc rfl (mWc rfl (mWc rfl (mWc rfl mW0)))))))) (b52 _ _ _ _ _ _ _ _ _ _ _ (rg_w (c := 0) (d := 255) hx1 (by decide +kernel)) (rg_w (c := 0) (d := 255) hx2 (by decide +kernel)) (rg_w (c := 0) (d := 1) hx3 (by decide +kernel)) (rg_w (c := 0) (d := 1) hx4 (by decide +kernel)) (rg_w (c := 0) (d := 1) hy53 (by decide +kernel)) (rg_w (c := 0) (d := 255) (show rg 0 255 _ from (rg_andR (rg_c (a := 255) (b := 255) (by decide +kernel)) (by decide +kernel))) (by decide +kernel)) (rg_w (c := (-256)) (d := 255) (show rg (-256) 255 _ from (rg_sub (show rg (-255) 255 _ from (rg_sub hy56 hy59 (by decide +kernel))) hx3 (by decide +kernel))) (by decide +kernel)) (rg_w (c := 5) (d := 5) (rg_c (a := 5) (b := 5) (by decide +kernel)) (by decide +kernel)) (rg_w (c := 0) (d := 1) (rg_c (a := 1) (b := 1) (by decide +kernel)) (by decide +kernel)) hI)
def SPX9_logic (S : mSp) : Prop := ∀ (n e : Int) (f0 f : mFn) (g : mGn) (K : mKr) (x1 : Int32), rg 0 255 x1 → rI n e f0 f g → (∀ (y : Int32) (f' : mFn) (g' : mGn), rg 0 255 y → rI n e f0 f' g' → K (some (.inl y)) f' g') → S [.inr 0, .inl x1] f g K
set_option maxRecDepth 100000 in
set_option maxHeartbeats 4000000 in
theorem sfX9_logic : SPX9_logic spX9_logic := by
  intro n e f0 f g K x1 hx1 hI hK
  refine ⟨rfl, fun X hX => ?_⟩
  obtain ⟨S_X9_setFlag, k_X9_setFlag, S_X9_zero, k_X9_zero, hX⟩ : ∃ S_X9_setFlag, SPX9_setFlag S_X9_setFlag ∧ ∃ S_X9_zero, SPX9_zero S_X9_zero ∧ mR shM fdX9_logic [(172, 0, 2, 12, S_X9_setFlag), (253, 0, 1, 12, S_X9_zero)] bsX9_logic (fun r f g => mRt (some .int) r ∧ K r f g) X := ⟨spX9_setFlag, sfX9_setFlag, spX9_zero, sfX9_zero, hX⟩
  refine hX.1 0 _ rfl _ _ _ _ ?_
  refine k_X9_setFlag n e f0 _ _ _ _ _ (rg_w (c := 0) (d := 7) (rg_c (a := 3) (b := 3) (by decide +kernel)) (by decide +kernel)) (rg_w (c := 0) (d := 1) (rg_c (a := 0) (b := 0) (by decide +kernel)) (by decide +kernel)) hI (fun f8 gf8 hI9 => ?_)
  refine k_X9_zero n e f0 _ _ _ _ (rg_w (c := 0) (d := 255) hx1 (by decide +kernel)) hI9 (fun f11 gf11 hI12 => ?_)
  exact And.intro mRt_i (hK _ _ _ (rg_w (c := 0) (d := 255) hx1 (by decide +kernel)) hI12)
def SPX9_ofTwo (S : mSp) : Prop := ∀ (n e : Int) (f0 f : mFn) (g : mGn) (K : mKr) (x1 : Int32), rg 0 65535 x1 → rI n e f0 f g → (∀ (y : Int32) (f' : mFn) (g' : mGn), rg 1 3 y → rI n e f0 f' g' → K (some (.inl y)) f' g') → S [.inr 0, .inl x1] f g K
set_option maxRecDepth 100000 in
set_option maxHeartbeats 4000000 in
theorem sfX9_ofTwo : SPX9_ofTwo spX9_ofTwo := by
  intro n e f0 f g K x1 hx1 hI hK
  refine ⟨rfl, fun X hX => ?_⟩
  obtain ⟨S_X9_moves, k_X9_moves, S_X9_carry, k_X9_carry, S_X9_subtract, k_X9_subtract, S_X9_add, k_X9_add, S_X9_skips, k_X9_skips, S_X9_logic, k_X9_logic, hX⟩ : ∃ S_X9_moves, SPX9_moves S_X9_moves ∧ ∃ S_X9_carry, SPX9_carry S_X9_carry ∧ ∃ S_X9_subtract, SPX9_subtract S_X9_subtract ∧ ∃ S_X9_add, SPX9_add S_X9_add ∧ ∃ S_X9_skips, SPX9_skips S_X9_skips ∧ ∃ S_X9_logic, SPX9_logic S_X9_logic ∧ mR shM fdX9_ofTwo [(285, 0, 1, 12, S_X9_moves), (288, 0, 0, 12, S_X9_carry), (291, 0, 4, 12, S_X9_subtract), (295, 0, 3, 12, S_X9_add), (299, 0, 0, 12, S_X9_skips), (302, 0, 1, 12, S_X9_logic)] bsX9_ofTwo (fun r f g => mRt (some .int) r ∧ K r f g) X := ⟨spX9_moves, sfX9_moves, spX9_carry, sfX9_carry, spX9_subtract, sfX9_subtract, spX9_add, sfX9_add, spX9_skips, sfX9_skips, spX9_logic, sfX9_logic, hX⟩
  have b173 : ∀ (s0 : Int32) (f : mFn) (g : mGn), rg 1 3 s0 → rI n e f0 f g → X 173 [] [.inl s0] f g := by
    intro s0 f g hs0 hI
    refine hX.1 7 _ rfl _ _ _ _ ?_
    exact And.intro mRt_i (hK _ _ _ (rg_w (c := 1) (d := 3) hs0 (by decide +kernel)) hI)
  refine hX.1 0 _ rfl _ _ _ _ ?_
  refine And.intro (rg_in (show rg 0 31 _ from (rg_andR (rg_c (a := 31) (b := 31) (by decide +kernel)) (by decide +kernel))) (by decide +kernel)) ?_
  refine And.intro (rg_in (show rg 0 31 _ from (rg_or (k := 5) (show rg 0 15 _ from (rg_andR (rg_c (a := 15) (b := 15) (by decide +kernel)) (by decide +kernel))) (show rg 0 16 _ from (rg_andR (rg_c (a := 16) (b := 16) (by decide +kernel)) (by decide +kernel))) (by decide +kernel))) (by decide +kernel)) ?_
  refine And.intro (fun c63 => ?_) (fun c63 => ?_)
  · -- 96
    refine hX.1 1 _ rfl _ _ _ _ ?_
    refine k_X9_moves n e f0 _ _ _ _ (rg_w (c := 0) (d := 65535) hx1 (by decide +kernel)) hI (fun y64 f65 gf65 hy64 hI66 => ?_)
    exact And.intro mRt_i (hK _ _ _ (rg_w (c := 1) (d := 3) hy64 (by decide +kernel)) hI66)
  · -- on
    refine And.intro (fun c67 => ?_) (fun c67 => ?_)
    · -- 102
      refine hX.1 2 _ rfl _ _ _ _ ?_
      refine k_X9_carry n e f0 _ _ _   hI (fun y68 hy68 => ?_)
      refine k_X9_subtract n e f0 _ _ _ _ _ _ _ (rg_w (c := 0) (d := 255) (gI_g hI 2 3 1280 0 255 rfl (rg_in (show rg 0 31 _ from (rg_andR (rg_c (a := 31) (b := 31) (by decide +kernel)) (by decide +kernel))) (by decide +kernel))) (by decide +kernel)) (rg_w (c := 0) (d := 255) (gI_g hI 2 3 1280 0 255 rfl (rg_in (show rg 0 31 _ from (rg_or (k := 5) (show rg 0 15 _ from (rg_andR (rg_c (a := 15) (b := 15) (by decide +kernel)) (by decide +kernel))) (show rg 0 16 _ from (rg_andR (rg_c (a := 16) (b := 16) (by decide +kernel)) (by decide +kernel))) (by decide +kernel))) (by decide +kernel))) (by decide +kernel)) (rg_w (c := 0) (d := 1) hy68 (by decide +kernel)) (rg_w (c := 0) (d := 1) (rg_c (a := 1) (b := 1) (by decide +kernel)) (by decide +kernel)) hI (fun y71 f72 gf72 hy71 hI73 => ?_)
      exact And.intro mRt_i (hK _ _ _ (rg_w (c := 1) (d := 3) (rg_c (a := 1) (b := 1) (by decide +kernel)) (by decide +kernel)) hI73)
    · -- on
      refine And.intro (fun c74 => ?_) (fun c74 => ?_)
      · -- 118
        refine hX.1 3 _ rfl _ _ _ _ ?_
        refine k_X9_carry n e f0 _ _ _   hI (fun y75 hy75 => ?_)
        refine k_X9_subtract n e f0 _ _ _ _ _ _ _ (rg_w (c := 0) (d := 255) (gI_g hI 2 3 1280 0 255 rfl (rg_in (show rg 0 31 _ from (rg_andR (rg_c (a := 31) (b := 31) (by decide +kernel)) (by decide +kernel))) (by decide +kernel))) (by decide +kernel)) (rg_w (c := 0) (d := 255) (gI_g hI 2 3 1280 0 255 rfl (rg_in (show rg 0 31 _ from (rg_or (k := 5) (show rg 0 15 _ from (rg_andR (rg_c (a := 15) (b := 15) (by decide +kernel)) (by decide +kernel))) (show rg 0 16 _ from (rg_andR (rg_c (a := 16) (b := 16) (by decide +kernel)) (by decide +kernel))) (by decide +kernel))) (by decide +kernel))) (by decide +kernel)) (rg_w (c := 0) (d := 1) hy75 (by decide +kernel)) (rg_w (c := 0) (d := 1) (rg_c (a := 1) (b := 1) (by decide +kernel)) (by decide +kernel)) hI (fun y78 f79 gf79 hy78 hI80 => ?_)
        refine And.intro (rg_in (show rg 0 31 _ from (rg_andR (rg_c (a := 31) (b := 31) (by decide +kernel)) (by decide +kernel))) (by decide +kernel)) ?_
        exact And.intro mRt_i (hK _ _ _ (rg_w (c := 1) (d := 3) (rg_c (a := 1) (b := 1) (by decide +kernel)) (by decide +kernel)) (gI_a1 hI80 2 1280 (lo := 0) (hi := 255) (rg_w (c := 0) (d := 255) hy78 (by decide +kernel)) (by decide +kernel)))
      · -- on
        refine And.intro (fun c82 => ?_) (fun c82 => ?_)
        · -- 139
          refine hX.1 4 _ rfl _ _ _ _ ?_
          refine k_X9_add n e f0 _ _ _ _ _ _ (rg_w (c := 0) (d := 255) (gI_g hI 2 3 1280 0 255 rfl (rg_in (show rg 0 31 _ from (rg_andR (rg_c (a := 31) (b := 31) (by decide +kernel)) (by decide +kernel))) (by decide +kernel))) (by decide +kernel)) (rg_w (c := 0) (d := 255) (gI_g hI 2 3 1280 0 255 rfl (rg_in (show rg 0 31 _ from (rg_or (k := 5) (show rg 0 15 _ from (rg_andR (rg_c (a := 15) (b := 15) (by decide +kernel)) (by decide +kernel))) (show rg 0 16 _ from (rg_andR (rg_c (a := 16) (b := 16) (by decide +kernel)) (by decide +kernel))) (by decide +kernel))) (by decide +kernel))) (by decide +kernel)) (rg_w (c := 0) (d := 1) (rg_c (a := 0) (b := 0) (by decide +kernel)) (by decide +kernel)) hI (fun y83 f84 gf84 hy83 hI85 => ?_)
          refine And.intro (rg_in (show rg 0 31 _ from (rg_andR (rg_c (a := 31) (b := 31) (by decide +kernel)) (by decide +kernel))) (by decide +kernel)) ?_
          exact And.intro mRt_i (hK _ _ _ (rg_w (c := 1) (d := 3) (rg_c (a := 1) (b := 1) (by decide +kernel)) (by decide +kernel)) (gI_a1 hI85 2 1280 (lo := 0) (hi := 255) (rg_w (c := 0) (d := 255) hy83 (by decide +kernel)) (by decide +kernel)))
        · -- on
          refine And.intro (fun c87 => ?_) (fun c87 => ?_)
          · -- 156
            refine hX.1 5 _ rfl _ _ _ _ ?_
            refine And.intro (fun c88 => ?_) (fun c88 => ?_)
            · -- 172
              refine hX.1 6 _ rfl _ _ _ _ ?_
              exact hX.2 _ _ [] _ _ _ mW0 (b173 _ _ _ (rg_w (c := 1) (d := 3) (rg_c (a := 1) (b := 1) (by decide +kernel)) (by decide +kernel)) hI)
            · -- on
              refine k_X9_skips n e f0 _ _ _  hI (fun y89 f90 gf90 hy89 hI91 => ?_)
              exact hX.2 _ _ [] _ _ _ mW0 (b173 _ _ _ (rg_w (c := 1) (d := 3) (show rg 2 3 _ from (rg_add (rg_c (a := 1) (b := 1) (by decide +kernel)) hy89 (by decide +kernel))) (by decide +kernel)) hI91)
          · -- on
            refine And.intro (fun c92 => ?_) (fun c92 => ?_)
            · -- 174
              refine hX.1 8 _ rfl _ _ _ _ ?_
              refine k_X9_subtract n e f0 _ _ _ _ _ _ _ (rg_w (c := 0) (d := 255) (gI_g hI 2 3 1280 0 255 rfl (rg_in (show rg 0 31 _ from (rg_andR (rg_c (a := 31) (b := 31) (by decide +kernel)) (by decide +kernel))) (by decide +kernel))) (by decide +kernel)) (rg_w (c := 0) (d := 255) (gI_g hI 2 3 1280 0 255 rfl (rg_in (show rg 0 31 _ from (rg_or (k := 5) (show rg 0 15 _ from (rg_andR (rg_c (a := 15) (b := 15) (by decide +kernel)) (by decide +kernel))) (show rg 0 16 _ from (rg_andR (rg_c (a := 16) (b := 16) (by decide +kernel)) (by decide +kernel))) (by decide +kernel))) (by decide +kernel))) (by decide +kernel)) (rg_w (c := 0) (d := 1) (rg_c (a := 0) (b := 0) (by decide +kernel)) (by decide +kernel)) (rg_w (c := 0) (d := 1) (rg_c (a := 0) (b := 0) (by decide +kernel)) (by decide +kernel)) hI (fun y93 f94 gf94 hy93 hI95 => ?_)
              exact And.intro mRt_i (hK _ _ _ (rg_w (c := 1) (d := 3) (rg_c (a := 1) (b := 1) (by decide +kernel)) (by decide +kernel)) hI95)
            · -- on
              refine And.intro (fun c96 => ?_) (fun c96 => ?_)
              · -- 187
                refine hX.1 9 _ rfl _ _ _ _ ?_
                refine k_X9_subtract n e f0 _ _ _ _ _ _ _ (rg_w (c := 0) (d := 255) (gI_g hI 2 3 1280 0 255 rfl (rg_in (show rg 0 31 _ from (rg_andR (rg_c (a := 31) (b := 31) (by decide +kernel)) (by decide +kernel))) (by decide +kernel))) (by decide +kernel)) (rg_w (c := 0) (d := 255) (gI_g hI 2 3 1280 0 255 rfl (rg_in (show rg 0 31 _ from (rg_or (k := 5) (show rg 0 15 _ from (rg_andR (rg_c (a := 15) (b := 15) (by decide +kernel)) (by decide +kernel))) (show rg 0 16 _ from (rg_andR (rg_c (a := 16) (b := 16) (by decide +kernel)) (by decide +kernel))) (by decide +kernel))) (by decide +kernel))) (by decide +kernel)) (rg_w (c := 0) (d := 1) (rg_c (a := 0) (b := 0) (by decide +kernel)) (by decide +kernel)) (rg_w (c := 0) (d := 1) (rg_c (a := 0) (b := 0) (by decide +kernel)) (by decide +kernel)) hI (fun y97 f98 gf98 hy97 hI99 => ?_)
                refine And.intro (rg_in (show rg 0 31 _ from (rg_andR (rg_c (a := 31) (b := 31) (by decide +kernel)) (by decide +kernel))) (by decide +kernel)) ?_
                exact And.intro mRt_i (hK _ _ _ (rg_w (c := 1) (d := 3) (rg_c (a := 1) (b := 1) (by decide +kernel)) (by decide +kernel)) (gI_a1 hI99 2 1280 (lo := 0) (hi := 255) (rg_w (c := 0) (d := 255) hy97 (by decide +kernel)) (by decide +kernel)))
              · -- on
                refine And.intro (fun c101 => ?_) (fun c101 => ?_)
                · -- 205
                  refine hX.1 10 _ rfl _ _ _ _ ?_
                  refine k_X9_carry n e f0 _ _ _   hI (fun y102 hy102 => ?_)
                  refine k_X9_add n e f0 _ _ _ _ _ _ (rg_w (c := 0) (d := 255) (gI_g hI 2 3 1280 0 255 rfl (rg_in (show rg 0 31 _ from (rg_andR (rg_c (a := 31) (b := 31) (by decide +kernel)) (by decide +kernel))) (by decide +kernel))) (by decide +kernel)) (rg_w (c := 0) (d := 255) (gI_g hI 2 3 1280 0 255 rfl (rg_in (show rg 0 31 _ from (rg_or (k := 5) (show rg 0 15 _ from (rg_andR (rg_c (a := 15) (b := 15) (by decide +kernel)) (by decide +kernel))) (show rg 0 16 _ from (rg_andR (rg_c (a := 16) (b := 16) (by decide +kernel)) (by decide +kernel))) (by decide +kernel))) (by decide +kernel))) (by decide +kernel)) (rg_w (c := 0) (d := 1) hy102 (by decide +kernel)) hI (fun y105 f106 gf106 hy105 hI107 => ?_)
                  refine And.intro (rg_in (show rg 0 31 _ from (rg_andR (rg_c (a := 31) (b := 31) (by decide +kernel)) (by decide +kernel))) (by decide +kernel)) ?_
                  exact And.intro mRt_i (hK _ _ _ (rg_w (c := 1) (d := 3) (rg_c (a := 1) (b := 1) (by decide +kernel)) (by decide +kernel)) (gI_a1 hI107 2 1280 (lo := 0) (hi := 255) (rg_w (c := 0) (d := 255) hy105 (by decide +kernel)) (by decide +kernel)))
                · -- on
                  refine And.intro (fun c109 => ?_) (fun c109 => ?_)
                  · -- 225
                    refine hX.1 11 _ rfl _ _ _ _ ?_
                    refine k_X9_logic n e f0 _ _ _ _ (rg_w (c := 0) (d := 255) (show rg 0 255 _ from (rg_andR (gI_g hI 2 3 1280 0 255 rfl (rg_in (show rg 0 31 _ from (rg_or (k := 5) (show rg 0 15 _ from (rg_andR (rg_c (a := 15) (b := 15) (by decide +kernel)) (by decide +kernel))) (show rg 0 16 _ from (rg_andR (rg_c (a := 16) (b := 16) (by decide +kernel)) (by decide +kernel))) (by decide +kernel))) (by decide +kernel))) (by decide +kernel))) (by decide +kernel)) hI (fun y110 f111 gf111 hy110 hI112 => ?_)
                    refine And.intro (rg_in (show rg 0 31 _ from (rg_andR (rg_c (a := 31) (b := 31) (by decide +kernel)) (by decide +kernel))) (by decide +kernel)) ?_
                    exact And.intro mRt_i (hK _ _ _ (rg_w (c := 1) (d := 3) (rg_c (a := 1) (b := 1) (by decide +kernel)) (by decide +kernel)) (gI_a1 hI112 2 1280 (lo := 0) (hi := 255) (rg_w (c := 0) (d := 255) hy110 (by decide +kernel)) (by decide +kernel)))
                  · -- on
                    refine And.intro (fun c114 => ?_) (fun c114 => ?_)
                    · -- 242
                      refine hX.1 12 _ rfl _ _ _ _ ?_
                      refine k_X9_logic n e f0 _ _ _ _ (rg_w (c := 0) (d := 255) (show rg 0 255 _ from (rg_xor (k := 8) (gI_g hI 2 3 1280 0 255 rfl (rg_in (show rg 0 31 _ from (rg_andR (rg_c (a := 31) (b := 31) (by decide +kernel)) (by decide +kernel))) (by decide +kernel))) (gI_g hI 2 3 1280 0 255 rfl (rg_in (show rg 0 31 _ from (rg_or (k := 5) (show rg 0 15 _ from (rg_andR (rg_c (a := 15) (b := 15) (by decide +kernel)) (by decide +kernel))) (show rg 0 16 _ from (rg_andR (rg_c (a := 16) (b := 16) (by decide +kernel)) (by decide +kernel))) (by decide +kernel))) (by decide +kernel))) (by decide +kernel))) (by decide +kernel)) hI (fun y115 f116 gf116 hy115 hI117 => ?_)
                      refine And.intro (rg_in (show rg 0 31 _ from (rg_andR (rg_c (a := 31) (b := 31) (by decide +kernel)) (by decide +kernel))) (by decide +kernel)) ?_
                      exact And.intro mRt_i (hK _ _ _ (rg_w (c := 1) (d := 3) (rg_c (a := 1) (b := 1) (by decide +kernel)) (by decide +kernel)) (gI_a1 hI117 2 1280 (lo := 0) (hi := 255) (rg_w (c := 0) (d := 255) hy115 (by decide +kernel)) (by decide +kernel)))
                    · -- on
                      refine And.intro (fun c119 => ?_) (fun c119 => ?_)
                      · -- 259
                        refine hX.1 13 _ rfl _ _ _ _ ?_
                        refine k_X9_logic n e f0 _ _ _ _ (rg_w (c := 0) (d := 255) (show rg 0 255 _ from (rg_or (k := 8) (gI_g hI 2 3 1280 0 255 rfl (rg_in (show rg 0 31 _ from (rg_andR (rg_c (a := 31) (b := 31) (by decide +kernel)) (by decide +kernel))) (by decide +kernel))) (gI_g hI 2 3 1280 0 255 rfl (rg_in (show rg 0 31 _ from (rg_or (k := 5) (show rg 0 15 _ from (rg_andR (rg_c (a := 15) (b := 15) (by decide +kernel)) (by decide +kernel))) (show rg 0 16 _ from (rg_andR (rg_c (a := 16) (b := 16) (by decide +kernel)) (by decide +kernel))) (by decide +kernel))) (by decide +kernel))) (by decide +kernel))) (by decide +kernel)) hI (fun y120 f121 gf121 hy120 hI122 => ?_)
                        refine And.intro (rg_in (show rg 0 31 _ from (rg_andR (rg_c (a := 31) (b := 31) (by decide +kernel)) (by decide +kernel))) (by decide +kernel)) ?_
                        exact And.intro mRt_i (hK _ _ _ (rg_w (c := 1) (d := 3) (rg_c (a := 1) (b := 1) (by decide +kernel)) (by decide +kernel)) (gI_a1 hI122 2 1280 (lo := 0) (hi := 255) (rg_w (c := 0) (d := 255) hy120 (by decide +kernel)) (by decide +kernel)))
                      · -- on
                        refine hX.1 14 _ rfl _ _ _ _ ?_
                        refine And.intro (rg_in (show rg 0 31 _ from (rg_andR (rg_c (a := 31) (b := 31) (by decide +kernel)) (by decide +kernel))) (by decide +kernel)) ?_
                        exact And.intro mRt_i (hK _ _ _ (rg_w (c := 1) (d := 3) (rg_c (a := 1) (b := 1) (by decide +kernel)) (by decide +kernel)) (gI_a1 hI 2 1280 (lo := 0) (hi := 255) (rg_w (c := 0) (d := 255) (gI_g hI 2 3 1280 0 255 rfl (rg_in (show rg 0 31 _ from (rg_or (k := 5) (show rg 0 15 _ from (rg_andR (rg_c (a := 15) (b := 15) (by decide +kernel)) (by decide +kernel))) (show rg 0 16 _ from (rg_andR (rg_c (a := 16) (b := 16) (by decide +kernel)) (by decide +kernel))) (by decide +kernel))) (by decide +kernel))) (by decide +kernel)) (by decide +kernel)))
def SPX9_ofNumber (S : mSp) : Prop := ∀ (n e : Int) (f0 f : mFn) (g : mGn) (K : mKr) (x1 : Int32), rg 0 65535 x1 → rI n e f0 f g → (∀ (y : Int32) (f' : mFn) (g' : mGn), rg 1 1 y → rI n e f0 f' g' → K (some (.inl y)) f' g') → S [.inr 0, .inl x1] f g K
set_option maxRecDepth 100000 in
set_option maxHeartbeats 4000000 in
theorem sfX9_ofNumber : SPX9_ofNumber spX9_ofNumber := by
  intro n e f0 f g K x1 hx1 hI hK
  refine ⟨rfl, fun X hX => ?_⟩
  obtain ⟨S_X9_subtract, k_X9_subtract, S_X9_carry, k_X9_carry, S_X9_logic, k_X9_logic, hX⟩ : ∃ S_X9_subtract, SPX9_subtract S_X9_subtract ∧ ∃ S_X9_carry, SPX9_carry S_X9_carry ∧ ∃ S_X9_logic, SPX9_logic S_X9_logic ∧ mR shM fdX9_ofNumber [(291, 0, 4, 12, S_X9_subtract), (288, 0, 0, 12, S_X9_carry), (302, 0, 1, 12, S_X9_logic)] bsX9_ofNumber (fun r f g => mRt (some .int) r ∧ K r f g) X := ⟨spX9_subtract, sfX9_subtract, spX9_carry, sfX9_carry, spX9_logic, sfX9_logic, hX⟩
  have b161 : ∀ (f : mFn) (g : mGn), rI n e f0 f g → X 161 [] [] f g := by
    intro f g  hI
    refine hX.1 7 _ rfl _ _ _ _ ?_
    exact And.intro mRt_i (hK _ _ _ (rg_w (c := 1) (d := 1) (rg_c (a := 1) (b := 1) (by decide +kernel)) (by decide +kernel)) hI)
  refine hX.1 0 _ rfl _ _ _ _ ?_
  refine And.intro (rg_in (show rg 16 31 _ from (rg_add (rg_c (a := 16) (b := 16) (by decide +kernel)) (show rg 0 15 _ from (rg_andR (rg_c (a := 15) (b := 15) (by decide +kernel)) (by decide +kernel))) (by decide +kernel))) (by decide +kernel)) ?_
  refine And.intro (fun c29 => ?_) (fun c29 => ?_)
  · -- 68
    refine hX.1 1 _ rfl _ _ _ _ ?_
    refine k_X9_subtract n e f0 _ _ _ _ _ _ _ (rg_w (c := 0) (d := 255) (gI_g hI 2 3 1280 0 255 rfl (rg_in (show rg 16 31 _ from (rg_add (rg_c (a := 16) (b := 16) (by decide +kernel)) (show rg 0 15 _ from (rg_andR (rg_c (a := 15) (b := 15) (by decide +kernel)) (by decide +kernel))) (by decide +kernel))) (by decide +kernel))) (by decide +kernel)) (rg_w (c := 0) (d := 255) (show rg 0 255 _ from (rg_or (k := 8) (show rg 0 15 _ from (rg_andR (rg_c (a := 15) (b := 15) (by decide +kernel)) (by decide +kernel))) (show rg 0 240 _ from (rg_andR (rg_c (a := 240) (b := 240) (by decide +kernel)) (by decide +kernel))) (by decide +kernel))) (by decide +kernel)) (rg_w (c := 0) (d := 1) (rg_c (a := 0) (b := 0) (by decide +kernel)) (by decide +kernel)) (rg_w (c := 0) (d := 1) (rg_c (a := 0) (b := 0) (by decide +kernel)) (by decide +kernel)) hI (fun y30 f31 gf31 hy30 hI32 => ?_)
    exact hX.2 _ _ [] _ _ _ mW0 (b161  _ _  hI32)
  · -- on
    refine And.intro (fun c33 => ?_) (fun c33 => ?_)
    · -- 81
      refine hX.1 2 _ rfl _ _ _ _ ?_
      refine k_X9_carry n e f0 _ _ _   hI (fun y34 hy34 => ?_)
      refine k_X9_subtract n e f0 _ _ _ _ _ _ _ (rg_w (c := 0) (d := 255) (gI_g hI 2 3 1280 0 255 rfl (rg_in (show rg 16 31 _ from (rg_add (rg_c (a := 16) (b := 16) (by decide +kernel)) (show rg 0 15 _ from (rg_andR (rg_c (a := 15) (b := 15) (by decide +kernel)) (by decide +kernel))) (by decide +kernel))) (by decide +kernel))) (by decide +kernel)) (rg_w (c := 0) (d := 255) (show rg 0 255 _ from (rg_or (k := 8) (show rg 0 15 _ from (rg_andR (rg_c (a := 15) (b := 15) (by decide +kernel)) (by decide +kernel))) (show rg 0 240 _ from (rg_andR (rg_c (a := 240) (b := 240) (by decide +kernel)) (by decide +kernel))) (by decide +kernel))) (by decide +kernel)) (rg_w (c := 0) (d := 1) hy34 (by decide +kernel)) (rg_w (c := 0) (d := 1) (rg_c (a := 1) (b := 1) (by decide +kernel)) (by decide +kernel)) hI (fun y37 f38 gf38 hy37 hI39 => ?_)
      refine And.intro (rg_in (show rg 16 31 _ from (rg_add (rg_c (a := 16) (b := 16) (by decide +kernel)) (show rg 0 15 _ from (rg_andR (rg_c (a := 15) (b := 15) (by decide +kernel)) (by decide +kernel))) (by decide +kernel))) (by decide +kernel)) ?_
      exact hX.2 _ _ [] _ _ _ mW0 (b161  _ _  (gI_a1 hI39 2 1280 (lo := 0) (hi := 255) (rg_w (c := 0) (d := 255) hy37 (by decide +kernel)) (by decide +kernel)))
    · -- on
      refine And.intro (fun c41 => ?_) (fun c41 => ?_)
      · -- 102
        refine hX.1 3 _ rfl _ _ _ _ ?_
        refine k_X9_subtract n e f0 _ _ _ _ _ _ _ (rg_w (c := 0) (d := 255) (gI_g hI 2 3 1280 0 255 rfl (rg_in (show rg 16 31 _ from (rg_add (rg_c (a := 16) (b := 16) (by decide +kernel)) (show rg 0 15 _ from (rg_andR (rg_c (a := 15) (b := 15) (by decide +kernel)) (by decide +kernel))) (by decide +kernel))) (by decide +kernel))) (by decide +kernel)) (rg_w (c := 0) (d := 255) (show rg 0 255 _ from (rg_or (k := 8) (show rg 0 15 _ from (rg_andR (rg_c (a := 15) (b := 15) (by decide +kernel)) (by decide +kernel))) (show rg 0 240 _ from (rg_andR (rg_c (a := 240) (b := 240) (by decide +kernel)) (by decide +kernel))) (by decide +kernel))) (by decide +kernel)) (rg_w (c := 0) (d := 1) (rg_c (a := 0) (b := 0) (by decide +kernel)) (by decide +kernel)) (rg_w (c := 0) (d := 1) (rg_c (a := 0) (b := 0) (by decide +kernel)) (by decide +kernel)) hI (fun y42 f43 gf43 hy42 hI44 => ?_)
        refine And.intro (rg_in (show rg 16 31 _ from (rg_add (rg_c (a := 16) (b := 16) (by decide +kernel)) (show rg 0 15 _ from (rg_andR (rg_c (a := 15) (b := 15) (by decide +kernel)) (by decide +kernel))) (by decide +kernel))) (by decide +kernel)) ?_
        exact hX.2 _ _ [] _ _ _ mW0 (b161  _ _  (gI_a1 hI44 2 1280 (lo := 0) (hi := 255) (rg_w (c := 0) (d := 255) hy42 (by decide +kernel)) (by decide +kernel)))
      · -- on
        refine And.intro (fun c46 => ?_) (fun c46 => ?_)
        · -- 120
          refine hX.1 4 _ rfl _ _ _ _ ?_
          refine k_X9_logic n e f0 _ _ _ _ (rg_w (c := 0) (d := 255) (show rg 0 255 _ from (rg_or (k := 8) (gI_g hI 2 3 1280 0 255 rfl (rg_in (show rg 16 31 _ from (rg_add (rg_c (a := 16) (b := 16) (by decide +kernel)) (show rg 0 15 _ from (rg_andR (rg_c (a := 15) (b := 15) (by decide +kernel)) (by decide +kernel))) (by decide +kernel))) (by decide +kernel))) (show rg 0 255 _ from (rg_or (k := 8) (show rg 0 15 _ from (rg_andR (rg_c (a := 15) (b := 15) (by decide +kernel)) (by decide +kernel))) (show rg 0 240 _ from (rg_andR (rg_c (a := 240) (b := 240) (by decide +kernel)) (by decide +kernel))) (by decide +kernel))) (by decide +kernel))) (by decide +kernel)) hI (fun y47 f48 gf48 hy47 hI49 => ?_)
          refine And.intro (rg_in (show rg 16 31 _ from (rg_add (rg_c (a := 16) (b := 16) (by decide +kernel)) (show rg 0 15 _ from (rg_andR (rg_c (a := 15) (b := 15) (by decide +kernel)) (by decide +kernel))) (by decide +kernel))) (by decide +kernel)) ?_
          exact hX.2 _ _ [] _ _ _ mW0 (b161  _ _  (gI_a1 hI49 2 1280 (lo := 0) (hi := 255) (rg_w (c := 0) (d := 255) hy47 (by decide +kernel)) (by decide +kernel)))
        · -- on
          refine And.intro (fun c51 => ?_) (fun c51 => ?_)
          · -- 137
            refine hX.1 5 _ rfl _ _ _ _ ?_
            refine k_X9_logic n e f0 _ _ _ _ (rg_w (c := 0) (d := 255) (show rg 0 255 _ from (rg_andR (show rg 0 255 _ from (rg_or (k := 8) (show rg 0 15 _ from (rg_andR (rg_c (a := 15) (b := 15) (by decide +kernel)) (by decide +kernel))) (show rg 0 240 _ from (rg_andR (rg_c (a := 240) (b := 240) (by decide +kernel)) (by decide +kernel))) (by decide +kernel))) (by decide +kernel))) (by decide +kernel)) hI (fun y52 f53 gf53 hy52 hI54 => ?_)
            refine And.intro (rg_in (show rg 16 31 _ from (rg_add (rg_c (a := 16) (b := 16) (by decide +kernel)) (show rg 0 15 _ from (rg_andR (rg_c (a := 15) (b := 15) (by decide +kernel)) (by decide +kernel))) (by decide +kernel))) (by decide +kernel)) ?_
            exact hX.2 _ _ [] _ _ _ mW0 (b161  _ _  (gI_a1 hI54 2 1280 (lo := 0) (hi := 255) (rg_w (c := 0) (d := 255) hy52 (by decide +kernel)) (by decide +kernel)))
          · -- on
            refine hX.1 6 _ rfl _ _ _ _ ?_
            refine And.intro (rg_in (show rg 16 31 _ from (rg_add (rg_c (a := 16) (b := 16) (by decide +kernel)) (show rg 0 15 _ from (rg_andR (rg_c (a := 15) (b := 15) (by decide +kernel)) (by decide +kernel))) (by decide +kernel))) (by decide +kernel)) ?_
            exact hX.2 _ _ [] _ _ _ mW0 (b161  _ _  (gI_a1 hI 2 1280 (lo := 0) (hi := 255) (rg_w (c := 0) (d := 255) (show rg 0 255 _ from (rg_or (k := 8) (show rg 0 15 _ from (rg_andR (rg_c (a := 15) (b := 15) (by decide +kernel)) (by decide +kernel))) (show rg 0 240 _ from (rg_andR (rg_c (a := 240) (b := 240) (by decide +kernel)) (by decide +kernel))) (by decide +kernel))) (by decide +kernel)) (by decide +kernel)))
def SPX9_pop (S : mSp) : Prop := ∀ (n e : Int) (f0 f : mFn) (g : mGn) (K : mKr), rI n e f0 f g → (∀ (y : Int32) (f' : mFn) (g' : mGn), rg 0 255 y → rI n e f0 f' g' → K (some (.inl y)) f' g') → S [.inr 0] f g K
set_option maxRecDepth 100000 in
set_option maxHeartbeats 4000000 in
theorem sfX9_pop : SPX9_pop spX9_pop := by
  intro n e f0 f g K   hI hK
  refine ⟨rfl, fun X hX => ?_⟩
  obtain ⟨S_X9_pointer, k_X9_pointer, S_X9_setPointer, k_X9_setPointer, S_X9_load, k_X9_load, hX⟩ : ∃ S_X9_pointer, SPX9_pointer S_X9_pointer ∧ ∃ S_X9_setPointer, SPX9_setPointer S_X9_setPointer ∧ ∃ S_X9_load, SPX9_load S_X9_load ∧ mR shM fdX9_pop [(231, 0, 1, 12, S_X9_pointer), (238, 0, 2, 12, S_X9_setPointer), (241, 0, 1, 12, S_X9_load)] bsX9_pop (fun r f g => mRt (some .int) r ∧ K r f g) X := ⟨spX9_pointer, sfX9_pointer, spX9_setPointer, sfX9_setPointer, spX9_load, sfX9_load, hX⟩
  refine hX.1 0 _ rfl _ _ _ _ ?_
  refine k_X9_pointer n e f0 _ _ _ _ (rg_w (c := 0) (d := 93) (rg_c (a := 93) (b := 93) (by decide +kernel)) (by decide +kernel)) hI (fun y10 hy10 => ?_)
  refine k_X9_setPointer n e f0 _ _ _ _ _ (rg_w (c := 0) (d := 93) (rg_c (a := 93) (b := 93) (by decide +kernel)) (by decide +kernel)) (rg_w (c := (-1)) (d := 65536) (show rg 0 65535 _ from (rg_andR (rg_c (a := 65535) (b := 65535) (by decide +kernel)) (by decide +kernel))) (by decide +kernel)) hI (fun f14 gf14 hI15 => ?_)
  refine k_X9_load n e f0 _ _ _ _ (rg_w (c := 0) (d := 65535) (show rg 0 65535 _ from (rg_andR (rg_c (a := 65535) (b := 65535) (by decide +kernel)) (by decide +kernel))) (by decide +kernel)) hI15 (fun y16 f17 gf17 hy16 hI18 => ?_)
  exact And.intro mRt_i (hK _ _ _ (rg_w (c := 0) (d := 255) hy16 (by decide +kernel)) hI18)
def SPX9_place (S : mSp) : Prop := ∀ (n e : Int) (f0 f : mFn) (g : mGn) (K : mKr) (x1 : Int32), rg 0 14 x1 → rI n e f0 f g → (∀ (y : Int32) (f' : mFn) (g' : mGn), rg (-1) 65535 y → rI n e f0 f' g' → K (some (.inl y)) f' g') → S [.inr 0, .inl x1] f g K
set_option maxRecDepth 100000 in
set_option maxHeartbeats 4000000 in
theorem sfX9_place : SPX9_place spX9_place := by
  intro n e f0 f g K x1 hx1 hI hK
  refine ⟨rfl, fun X hX => ?_⟩
  obtain ⟨S_X9_next, k_X9_next, S_X9_pointer, k_X9_pointer, S_X9_setPointer, k_X9_setPointer, hX⟩ : ∃ S_X9_next, SPX9_next S_X9_next ∧ ∃ S_X9_pointer, SPX9_pointer S_X9_pointer ∧ ∃ S_X9_setPointer, SPX9_setPointer S_X9_setPointer ∧ mR shM fdX9_place [(259, 0, 0, 12, S_X9_next), (231, 0, 1, 12, S_X9_pointer), (238, 0, 2, 12, S_X9_setPointer)] bsX9_place (fun r f g => mRt (some .int) r ∧ K r f g) X := ⟨spX9_next, sfX9_next, spX9_pointer, sfX9_pointer, spX9_setPointer, sfX9_setPointer, hX⟩
  have b132 : ∀ (s0 : Int32) (f : mFn) (g : mGn), rg 0 65535 s0 → rI n e f0 f g → X 132 [] [.inl s0] f g := by
    intro s0 f g hs0 hI
    refine hX.1 14 _ rfl _ _ _ _ ?_
    exact And.intro mRt_i (hK _ _ _ (rg_w (c := (-1)) (d := 65535) hs0 (by decide +kernel)) hI)
  have b105 : ∀ (a2 : Int32) (a3 : Int32) (s0 : Int32) (f : mFn) (g : mGn), rg 0 30 a2 → rg 0 65535 a3 → rg (-1) 1 s0 → rI n e f0 f g → X 105 [(0, .inr 0), (2, .inl a2), (3, .inl a3)] [.inl s0] f g := by
    intro a2 a3 s0 f g ha2 ha3 hs0 hI
    refine hX.1 12 _ rfl _ _ _ _ ?_
    refine k_X9_setPointer n e f0 _ _ _ _ _ (rg_w (c := 0) (d := 93) ha2 (by decide +kernel)) (rg_w (c := (-1)) (d := 65536) (show rg (-1) 65536 _ from (rg_add ha3 hs0 (by decide +kernel))) (by decide +kernel)) hI (fun f24 gf24 hI25 => ?_)
    refine And.intro (fun c26 => ?_) (fun c26 => ?_)
    · -- 131
      refine hX.1 13 _ rfl _ _ _ _ ?_
      exact hX.2 _ _ [] _ _ _ mW0 (b132 _ _ _ (rg_w (c := 0) (d := 65535) ha3 (by decide +kernel)) hI25)
    · -- on
      exact hX.2 _ _ [] _ _ _ mW0 (b132 _ _ _ (rg_w (c := 0) (d := 65535) (show rg 0 65535 _ from (rg_andR (rg_c (a := 65535) (b := 65535) (by decide +kernel)) (by decide +kernel))) (by decide +kernel)) hI25)
  have b100 : ∀ (a2 : Int32) (a3 : Int32) (f : mFn) (g : mGn), rg 0 30 a2 → rg 0 65535 a3 → rI n e f0 f g → X 100 [(0, .inr 0), (2, .inl a2), (3, .inl a3)] [] f g := by
    intro a2 a3 f g ha2 ha3 hI
    refine hX.1 10 _ rfl _ _ _ _ ?_
    exact hX.2 _ _ [(0, .inr 0), (2, .inl _), (3, .inl _)] _ _ _ (mWc rfl (mWc rfl (mWc rfl mW0))) (b105 _ _ _ _ _ (rg_w (c := 0) (d := 30) ha2 (by decide +kernel)) (rg_w (c := 0) (d := 65535) ha3 (by decide +kernel)) (rg_w (c := (-1)) (d := 1) (rg_c (a := 1) (b := 1) (by decide +kernel)) (by decide +kernel)) hI)
  have b50 : ∀ (a1 : Int32) (s0 : Int32) (f : mFn) (g : mGn), rg 0 14 a1 → rg (-1) 30 s0 → rI n e f0 f g → X 50 [(0, .inr 0), (1, .inl a1)] [.inl s0] f g := by
    intro a1 s0 f g ha1 hs0 hI
    refine hX.1 6 _ rfl _ _ _ _ ?_
    refine And.intro (fun c27 => ?_) (fun c27 => ?_)
    · -- 60
      refine hX.1 7 _ rfl _ _ _ _ ?_
      refine And.intro (fun c28 => ?_) (fun c28 => ?_)
      · -- 67
        refine hX.1 8 _ rfl _ _ _ _ ?_
        refine k_X9_pointer n e f0 _ _ _ _ (rg_w (c := 0) (d := 93) (show rg 0 30 _ from (rg_neL hs0 (rg_c (a := (-1)) (b := (-1)) (by decide +kernel)) c28 (by decide +kernel))) (by decide +kernel)) hI (fun y29 hy29 => ?_)
        refine And.intro (fun c32 => ?_) (fun c32 => ?_)
        · -- 83
          refine hX.1 9 _ rfl _ _ _ _ ?_
          refine And.intro (fun c33 => ?_) (fun c33 => ?_)
          · -- 100
            exact hX.2 _ _ [(0, .inr 0), (2, .inl _), (3, .inl _)] _ _ _ (mWc rfl (mWc rfl (mWc rfl mW0))) (b100 _ _ _ _ (rg_w (c := 0) (d := 30) (show rg 0 30 _ from (rg_neL hs0 (rg_c (a := (-1)) (b := (-1)) (by decide +kernel)) c28 (by decide +kernel))) (by decide +kernel)) (rg_w (c := 0) (d := 65535) hy29 (by decide +kernel)) hI)
          · -- on
            refine And.intro (fun c34 => ?_) (fun c34 => ?_)
            · -- 100
              exact hX.2 _ _ [(0, .inr 0), (2, .inl _), (3, .inl _)] _ _ _ (mWc rfl (mWc rfl (mWc rfl mW0))) (b100 _ _ _ _ (rg_w (c := 0) (d := 30) (show rg 0 30 _ from (rg_neL hs0 (rg_c (a := (-1)) (b := (-1)) (by decide +kernel)) c28 (by decide +kernel))) (by decide +kernel)) (rg_w (c := 0) (d := 65535) hy29 (by decide +kernel)) hI)
            · -- on
              refine And.intro (fun c35 => ?_) (fun c35 => ?_)
              · -- 104
                refine hX.1 11 _ rfl _ _ _ _ ?_
                exact hX.2 _ _ [(0, .inr 0), (2, .inl _), (3, .inl _)] _ _ _ (mWc rfl (mWc rfl (mWc rfl mW0))) (b105 _ _ _ _ _ (rg_w (c := 0) (d := 30) (show rg 0 30 _ from (rg_neL hs0 (rg_c (a := (-1)) (b := (-1)) (by decide +kernel)) c28 (by decide +kernel))) (by decide +kernel)) (rg_w (c := 0) (d := 65535) hy29 (by decide +kernel)) (rg_w (c := (-1)) (d := 1) (rg_c (a := (-1)) (b := (-1)) (by decide +kernel)) (by decide +kernel)) hI)
              · -- on
                exact hX.2 _ _ [(0, .inr 0), (2, .inl _), (3, .inl _)] _ _ _ (mWc rfl (mWc rfl (mWc rfl mW0))) (b100 _ _ _ _ (rg_w (c := 0) (d := 30) (show rg 0 30 _ from (rg_neL hs0 (rg_c (a := (-1)) (b := (-1)) (by decide +kernel)) c28 (by decide +kernel))) (by decide +kernel)) (rg_w (c := 0) (d := 65535) hy29 (by decide +kernel)) hI)
        · -- on
          exact hX.2 _ _ [(0, .inr 0), (2, .inl _), (3, .inl _)] _ _ _ (mWc rfl (mWc rfl (mWc rfl mW0))) (b105 _ _ _ _ _ (rg_w (c := 0) (d := 30) (show rg 0 30 _ from (rg_neL hs0 (rg_c (a := (-1)) (b := (-1)) (by decide +kernel)) c28 (by decide +kernel))) (by decide +kernel)) (rg_w (c := 0) (d := 65535) hy29 (by decide +kernel)) (rg_w (c := (-1)) (d := 1) (rg_c (a := 0) (b := 0) (by decide +kernel)) (by decide +kernel)) hI)
      · -- on
        exact And.intro mRt_i (hK _ _ _ (rg_w (c := (-1)) (d := 65535) (rg_c (a := (-1)) (b := (-1)) (by decide +kernel)) (by decide +kernel)) hI)
    · -- on
      refine k_X9_next n e f0 _ _ _  hI (fun y36 f37 gf37 hy36 hI38 => ?_)
      exact And.intro mRt_i (hK _ _ _ (rg_w (c := (-1)) (d := 65535) hy36 (by decide +kernel)) hI38)
  have b10 : ∀ (a1 : Int32) (f : mFn) (g : mGn), rg 1 2 a1 → rI n e f0 f g → X 10 [(0, .inr 0), (1, .inl a1)] [] f g := by
    intro a1 f g ha1 hI
    refine hX.1 1 _ rfl _ _ _ _ ?_
    exact hX.2 _ _ [(0, .inr 0), (1, .inl _)] _ _ _ (mWc rfl (mWc rfl mW0)) (b50 _ _ _ _ (rg_w (c := 0) (d := 14) ha1 (by decide +kernel)) (rg_w (c := (-1)) (d := 30) (rg_c (a := 30) (b := 30) (by decide +kernel)) (by decide +kernel)) hI)
  have b27 : ∀ (a1 : Int32) (f : mFn) (g : mGn), rg 9 10 a1 → rI n e f0 f g → X 27 [(0, .inr 0), (1, .inl a1)] [] f g := by
    intro a1 f g ha1 hI
    refine hX.1 3 _ rfl _ _ _ _ ?_
    exact hX.2 _ _ [(0, .inr 0), (1, .inl _)] _ _ _ (mWc rfl (mWc rfl mW0)) (b50 _ _ _ _ (rg_w (c := 0) (d := 14) ha1 (by decide +kernel)) (rg_w (c := (-1)) (d := 30) (rg_c (a := 28) (b := 28) (by decide +kernel)) (by decide +kernel)) hI)
  have b49 : ∀ (a1 : Int32) (f : mFn) (g : mGn), rg 0 11 a1 → rI n e f0 f g → X 49 [(0, .inr 0), (1, .inl a1)] [] f g := by
    intro a1 f g ha1 hI
    refine hX.1 5 _ rfl _ _ _ _ ?_
    exact hX.2 _ _ [(0, .inr 0), (1, .inl _)] _ _ _ (mWc rfl (mWc rfl mW0)) (b50 _ _ _ _ (rg_w (c := 0) (d := 14) ha1 (by decide +kernel)) (rg_w (c := (-1)) (d := 30) (rg_c (a := (-1)) (b := (-1)) (by decide +kernel)) (by decide +kernel)) hI)
  refine hX.1 0 _ rfl _ _ _ _ ?_
  refine And.intro (fun c39 => ?_) (fun c39 => ?_)
  · -- 10
    exact hX.2 _ _ [(0, .inr 0), (1, .inl _)] _ _ _ (mWc rfl (mWc rfl mW0)) (b10 _ _ _ (rg_w (c := 1) (d := 2) (show rg 1 1 _ from (rg_eq (rg_c (a := 1) (b := 1) (by decide +kernel)) c39)) (by decide +kernel)) hI)
  · -- on
    refine And.intro (fun c40 => ?_) (fun c40 => ?_)
    · -- 15
      refine hX.1 2 _ rfl _ _ _ _ ?_
      refine And.intro (fun c41 => ?_) (fun c41 => ?_)
      · -- 27
        exact hX.2 _ _ [(0, .inr 0), (1, .inl _)] _ _ _ (mWc rfl (mWc rfl mW0)) (b27 _ _ _ (rg_w (c := 9) (d := 10) (show rg 9 9 _ from (rg_eq (rg_c (a := 9) (b := 9) (by decide +kernel)) c41)) (by decide +kernel)) hI)
      · -- on
        refine And.intro (fun c42 => ?_) (fun c42 => ?_)
        · -- 32
          refine hX.1 4 _ rfl _ _ _ _ ?_
          refine And.intro (fun c43 => ?_) (fun c43 => ?_)
          · -- 49
            exact hX.2 _ _ [(0, .inr 0), (1, .inl _)] _ _ _ (mWc rfl (mWc rfl mW0)) (b49 _ _ _ (rg_w (c := 0) (d := 11) (show rg 0 11 _ from (rg_lt hx1 (rg_c (a := 12) (b := 12) (by decide +kernel)) c43 (by decide +kernel))) (by decide +kernel)) hI)
          · -- on
            refine And.intro (fun c44 => ?_) (fun c44 => ?_)
            · -- 49
              exact (rg_no (show rg 15 14 _ from (rg_gt (show rg 12 14 _ from (rg_ge hx1 (rg_c (a := 12) (b := 12) (by decide +kernel)) (rg_nlt c43) (by decide +kernel))) (rg_c (a := 14) (b := 14) (by decide +kernel)) c44 (by decide +kernel))) (by decide +kernel)).elim
            · -- on
              exact hX.2 _ _ [(0, .inr 0), (1, .inl _)] _ _ _ (mWc rfl (mWc rfl mW0)) (b50 _ _ _ _ (rg_w (c := 0) (d := 14) (show rg 12 14 _ from (rg_ge hx1 (rg_c (a := 12) (b := 12) (by decide +kernel)) (rg_nlt c43) (by decide +kernel))) (by decide +kernel)) (rg_w (c := (-1)) (d := 30) (rg_c (a := 26) (b := 26) (by decide +kernel)) (by decide +kernel)) hI)
        · -- on
          exact hX.2 _ _ [(0, .inr 0), (1, .inl _)] _ _ _ (mWc rfl (mWc rfl mW0)) (b27 _ _ _ (rg_w (c := 9) (d := 10) (show rg 10 10 _ from (rg_eq (rg_c (a := 10) (b := 10) (by decide +kernel)) c42)) (by decide +kernel)) hI)
    · -- on
      exact hX.2 _ _ [(0, .inr 0), (1, .inl _)] _ _ _ (mWc rfl (mWc rfl mW0)) (b10 _ _ _ (rg_w (c := 1) (d := 2) (show rg 2 2 _ from (rg_eq (rg_c (a := 2) (b := 2) (by decide +kernel)) c40)) (by decide +kernel)) hI)
