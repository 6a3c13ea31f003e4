def SPJ6_bitCount_0f7a4 (S : mSp) : Prop := ∀ (n e : Int) (f0 f : mFn) (g : mGn) (K : mKr) (x0 : Int32), cI n e f0 f g → (∀ (y : Int32), rg 0 63 y → K (some (.inl y)) f g) → S [.inl x0] f g K
set_option maxRecDepth 100000 in
set_option maxHeartbeats 4000000 in
theorem sfJ6_bitCount_0f7a4 : SPJ6_bitCount_0f7a4 spJ6_bitCount_0f7a4 := by
  intro n e f0 f g K x0  hI hK
  refine ⟨rfl, fun X hX => ?_⟩
  refine hX.1 0 _ rfl _ _ _ _ ?_
  exact And.intro mRt_i (hK _ (rg_w (c := 0) (d := 63) (show rg 0 63 _ from (rg_andR (rg_c (a := 63) (b := 63) (by decide +kernel)) (by decide +kernel))) (by decide +kernel)) )
def SPJ7_fill_53178 (S : mSp) : Prop := ∀ (n e : Int) (f0 f : mFn) (g : mGn) (K : mKr) (x1 : Int32), cI n e f0 f g → (∀ g' : mGn, cI n e f0 f g' → K none f g') → S [.inr 9, .inl x1] f g K
set_option maxRecDepth 100000 in
theorem sfJ7_fill_53178 : SPJ7_fill_53178 spJ7_fill_53178 := by
  intro n e f0 f g K x1 hI hK
  refine ⟨rfl, fun X hX => ?_⟩
  have b20 : ∀ g : mGn, cI n e f0 f g → X 20 [] [] f g := by
    intro g hI
    refine hX.1 2 _ rfl _ _ _ _ ?_
    exact And.intro mRt_v (hK _ hI)
  have r5 : ∀ (t : Nat) (a2 : Int32) (g : mGn), rg 0 1280 a2 → cI n e f0 f g → (1280 - a2.toInt).toNat < t → X 5 [(0, .inr 9), (1, .inl x1), (2, .inl a2), (3, .inl 1280)] [] f g := by
    intro t
    induction t with
    | zero => intro a2 g h2 hI hm; exact absurd hm (Nat.not_lt_zero _)
    | succ t ih =>
      intro a2 g h2 hI hm
      refine hX.1 1 _ rfl _ _ _ _ ?_
      refine And.intro (fun c => ?_) (fun c => ?_)
      · exact hX.2 _ _ [] _ _ _ mW0 (b20 _ hI)
      · have h3 : rg 0 1279 a2 := rg_lt h2 (rg_c (a := 1280) (b := 1280) (by decide +kernel)) (rg_nle c) (by decide +kernel)
        refine And.intro (rg_in h3 (by decide +kernel)) ?_
        exact hX.2 _ _ [(0, .inr 9), (1, .inl _), (2, .inl _), (3, .inl _)] _ _ _ (mWc rfl (mWc rfl (mWc rfl (mWc rfl mW0)))) (ih _ _ (rg_w (c := 0) (d := 1280) (show rg 1 1280 _ from rg_add h3 (rg_c (a := 1) (b := 1) (by decide +kernel)) (by decide +kernel)) (by decide +kernel)) (gI_a0 hI (by decide +kernel)) (lp_m (N := 1280) (rg_w h3 (by decide +kernel)) hm))
  refine hX.1 0 _ rfl _ _ _ _ ?_
  exact hX.2 _ _ [(0, .inr 9), (1, .inl _), (2, .inl _), (3, .inl 1280)] _ _ _ (mWc rfl (mWc rfl (mWc rfl (mWc rfl mW0)))) (r5 _ _ _ (rg_c (a := 0) (b := 1280) (by decide +kernel)) hI (Nat.lt_succ_self _))
theorem lp_v {b k : Int32} {t : Nat} (h : k < b) (hm : (b.toInt - k.toInt).toNat < t + 1) : (b.toInt - (k + 1).toInt).toNat < t ∧ (k + 1).toInt = k.toInt + 1 := by
  have q : (1 : Int32).toInt = 1 := by decide
  have h1 := Int32.lt_iff_toInt_lt.mp h
  have h2 := b.toInt_lt
  have h3 := k.le_toInt
  have e1 : (k + 1).toInt = k.toInt + 1 := by
    rw [Int32.toInt_add, q]
    exact rg_bm (by omega) (by omega)
  exact ⟨by omega, e1⟩
theorem fl_le {a : Int32} (h : rg 0 2016 a) : a ≤ a + 32 := by
  have q : (32 : Int32).toInt = 32 := by decide
  have h1 := h.1
  have h2 := h.2
  apply Int32.le_iff_toInt_le.mpr
  rw [Int32.toInt_add, q, rg_bm (by omega) (by omega)]
  omega
def SPJ7_rangeCheck_23922 (S : mSp) : Prop := ∀ (f : mFn) (g : mGn) (K : mKr) (x0 x1 x2 : Int32), x1 ≤ x2 → 0 ≤ x1.toInt → x2 ≤ x0 → K none f g → S [.inl x0, .inl x1, .inl x2] f g K
set_option maxRecDepth 100000 in
theorem sfJ7_rangeCheck_23922 : SPJ7_rangeCheck_23922 spJ7_rangeCheck_23922 := by
  intro f g K x0 x1 x2 h1 h2 h3 hK
  refine ⟨rfl, fun X hX => ?_⟩
  refine hX.1 0 _ rfl _ _ _ _ ?_
  refine And.intro (fun c => ?_) (fun c => absurd h1 c)
  refine hX.1 1 _ rfl _ _ _ _ ?_
  refine And.intro (fun c => ?_) (fun c => absurd (Int32.le_iff_toInt_le.mpr (by rw [rg_z]; exact h2)) c)
  refine hX.1 2 _ rfl _ _ _ _ ?_
  refine And.intro (fun c => ?_) (fun c => absurd h3 c)
  refine hX.1 3 _ rfl _ _ _ _ ?_
  exact And.intro mRt_v hK
set_option maxRecDepth 100000 in
theorem sfJ7_fill_fda19_9 (n e : Int) (f0 f : mFn) (g : mGn) (K : mKr) (x1 x2 x3 : Int32) (h1 : 0 ≤ x1.toInt) (h2 : x1 ≤ x2) (h3 : x2.toInt ≤ 1280) (hI : cI n e f0 f g) (hK : ∀ g' : mGn, cI n e f0 f g' → K none f g') : spJ7_fill_fda19 [.inr 9, .inl x1, .inl x2, .inl x3] f g K := by
  refine ⟨rfl, fun X hX => ?_⟩
  obtain ⟨S_R, k_R, hX⟩ : ∃ S_R, SPJ7_rangeCheck_23922 S_R ∧ mR shC fdJ7_fill_fda19 [(13, 1, 3, 0, S_R)] bsJ7_fill_fda19 (fun r f g => mRt none r ∧ K r f g) X := ⟨spJ7_rangeCheck_23922, sfJ7_rangeCheck_23922, hX⟩
  have b27 : ∀ g : mGn, cI n e f0 f g → X 27 [] [] f g := by
    intro g hI
    refine hX.1 2 _ rfl _ _ _ _ ?_
    exact And.intro mRt_v (hK _ hI)
  have r10 : ∀ (t : Nat) (a4 : Int32) (g : mGn), 0 ≤ a4.toInt → cI n e f0 f g → (x2.toInt - a4.toInt).toNat < t → X 10 [(0, .inr 9), (2, .inl x2), (3, .inl x3), (4, .inl a4)] [] f g := by
    intro t
    induction t with
    | zero => intro a4 g h4 hI hm; exact absurd hm (Nat.not_lt_zero _)
    | succ t ih =>
      intro a4 g h4 hI hm
      refine hX.1 1 _ rfl _ _ _ _ ?_
      refine And.intro (fun c => ?_) (fun c => ?_)
      · exact hX.2 _ _ [] _ _ _ mW0 (b27 _ hI)
      · have hv := lp_v (rg_nle c) hm
        have hlt := Int32.lt_iff_toInt_lt.mp (rg_nle c)
        refine And.intro (vp_in_iff.mpr ⟨h4, Int.lt_of_lt_of_le hlt h3⟩) ?_
        exact hX.2 _ _ [(0, .inr 9), (2, .inl _), (3, .inl _), (4, .inl _)] _ _ _ (mWc rfl (mWc rfl (mWc rfl (mWc rfl mW0)))) (ih _ _ (by rw [hv.2]; omega) (gI_a0 hI (by decide +kernel)) hv.1)
  refine hX.1 0 _ rfl _ _ _ _ ?_
  refine k_R _ _ _ _ _ _ h2 h1 (Int32.le_iff_toInt_le.mpr h3) ?_
  exact hX.2 _ _ [(0, .inr 9), (2, .inl _), (3, .inl _), (4, .inl _)] _ _ _ (mWc rfl (mWc rfl (mWc rfl (mWc rfl mW0)))) (r10 _ _ _ h1 hI (Nat.lt_succ_self _))
set_option maxRecDepth 100000 in
theorem sfJ7_fill_fda19_10 (n e : Int) (f0 f : mFn) (g : mGn) (K : mKr) (x1 x2 x3 : Int32) (h1 : 0 ≤ x1.toInt) (h2 : x1 ≤ x2) (h3 : x2.toInt ≤ 2048) (hI : cI n e f0 f g) (hK : ∀ g' : mGn, cI n e f0 f g' → K none f g') : spJ7_fill_fda19 [.inr 10, .inl x1, .inl x2, .inl x3] f g K := by
  refine ⟨rfl, fun X hX => ?_⟩
  obtain ⟨S_R, k_R, hX⟩ : ∃ S_R, SPJ7_rangeCheck_23922 S_R ∧ mR shC fdJ7_fill_fda19 [(13, 1, 3, 0, S_R)] bsJ7_fill_fda19 (fun r f g => mRt none r ∧ K r f g) X := ⟨spJ7_rangeCheck_23922, sfJ7_rangeCheck_23922, hX⟩
  have b27 : ∀ g : mGn, cI n e f0 f g → X 27 [] [] f g := by
    intro g hI
    refine hX.1 2 _ rfl _ _ _ _ ?_
    exact And.intro mRt_v (hK _ hI)
  have r10 : ∀ (t : Nat) (a4 : Int32) (g : mGn), 0 ≤ a4.toInt → cI n e f0 f g → (x2.toInt - a4.toInt).toNat < t → X 10 [(0, .inr 10), (2, .inl x2), (3, .inl x3), (4, .inl a4)] [] f g := by
    intro t
    induction t with
    | zero => intro a4 g h4 hI hm; exact absurd hm (Nat.not_lt_zero _)
    | succ t ih =>
      intro a4 g h4 hI hm
      refine hX.1 1 _ rfl _ _ _ _ ?_
      refine And.intro (fun c => ?_) (fun c => ?_)
      · exact hX.2 _ _ [] _ _ _ mW0 (b27 _ hI)
      · have hv := lp_v (rg_nle c) hm
        have hlt := Int32.lt_iff_toInt_lt.mp (rg_nle c)
        refine And.intro (vp_in_iff.mpr ⟨h4, Int.lt_of_lt_of_le hlt h3⟩) ?_
        exact hX.2 _ _ [(0, .inr 10), (2, .inl _), (3, .inl _), (4, .inl _)] _ _ _ (mWc rfl (mWc rfl (mWc rfl (mWc rfl mW0)))) (ih _ _ (by rw [hv.2]; omega) (gI_a0 hI (by decide +kernel)) hv.1)
  refine hX.1 0 _ rfl _ _ _ _ ?_
  refine k_R _ _ _ _ _ _ h2 h1 (Int32.le_iff_toInt_le.mpr h3) ?_
  exact hX.2 _ _ [(0, .inr 10), (2, .inl _), (3, .inl _), (4, .inl _)] _ _ _ (mWc rfl (mWc rfl (mWc rfl (mWc rfl mW0)))) (r10 _ _ _ h1 hI (Nat.lt_succ_self _))
def SPJ7_fill_fda19 (S : mSp) : Prop := ∀ (n e : Int) (f0 f : mFn) (g : mGn) (K : mKr) (p : Nat) (m : Int) (x1 x2 x3 : Int32), ((p = 9 ∧ m = 1280) ∨ (p = 10 ∧ m = 2048)) → 0 ≤ x1.toInt → x1 ≤ x2 → x2.toInt ≤ m → cI n e f0 f g → (∀ g' : mGn, cI n e f0 f g' → K none f g') → S [.inr p, .inl x1, .inl x2, .inl x3] f g K
theorem sfJ7_fill_fda19 : SPJ7_fill_fda19 spJ7_fill_fda19 := by
  intro n e f0 f g K p m x1 x2 x3 hp h1 h2 h3 hI hK
  rcases hp with ⟨rfl, rfl⟩ | ⟨rfl, rfl⟩
  · exact sfJ7_fill_fda19_9 n e f0 f g K x1 x2 x3 h1 h2 h3 hI hK
  · exact sfJ7_fill_fda19_10 n e f0 f g K x1 x2 x3 h1 h2 h3 hI hK
def SPX0_signed (S : mSp) : Prop := ∀ (n e : Int) (f0 f : mFn) (g : mGn) (K : mKr) (x0 : Int32), cI n e f0 f g → (∀ (y : Int32), rg (-2147483648) 2147483391 y → K (some (.inl y)) f g) → S [.inl x0] f g K
set_option maxRecDepth 100000 in
set_option maxHeartbeats 4000000 in
theorem sfX0_signed : SPX0_signed spX0_signed := by
  intro n e f0 f g K x0  hI hK
  refine ⟨rfl, fun X hX => ?_⟩
  have b16 : ∀ (s0 : Int32), rg (-2147483648) 2147483391 s0 → X 16 [] [.inl s0] f g := by
    intro s0 hs0
    refine hX.1 2 _ rfl _ _ _ _ ?_
    exact And.intro mRt_i (hK _ (rg_w (c := (-2147483648)) (d := 2147483391) hs0 (by decide +kernel)) )
  refine hX.1 0 _ rfl _ _ _ _ ?_
  refine And.intro (fun c2 => ?_) (fun c2 => ?_)
  · -- 11
    refine hX.1 1 _ rfl _ _ _ _ ?_
    exact hX.2 _ _ [] _ _ _ mW0 (b16 _ (rg_w (c := (-2147483648)) (d := 2147483391) (show rg (-128) 2147483391 _ from (rg_sub (show rg 128 2147483647 _ from (rg_ge (rg_all _) (rg_c (a := 128) (b := 128) (by decide +kernel)) c2 (by decide +kernel))) (rg_c (a := 256) (b := 256) (by decide +kernel)) (by decide +kernel))) (by decide +kernel)))
  · -- on
    exact hX.2 _ _ [] _ _ _ mW0 (b16 _ (rg_w (c := (-2147483648)) (d := 2147483391) (show rg (-2147483648) 127 _ from (rg_lt (rg_all _) (rg_c (a := 128) (b := 128) (by decide +kernel)) (rg_nle c2) (by decide +kernel))) (by decide +kernel)))
def SPX0_signs (S : mSp) : Prop := ∀ (n e : Int) (f0 f : mFn) (g : mGn) (K : mKr) (x0 : Int32) (x1 : Int32) (x2 : Int32), rg 128 32768 x1 → rg 0 1 x2 → cI n e f0 f g → (∀ (y : Int32), rg 0 31 y → K (some (.inl y)) f g) → S [.inl x0, .inl x1, .inl x2] f g K
set_option maxRecDepth 100000 in
set_option maxHeartbeats 4000000 in
theorem sfX0_signs : SPX0_signs spX0_signs := by
  intro n e f0 f g K x0 x1 x2 hx1 hx2 hI hK
  refine ⟨rfl, fun X hX => ?_⟩
  have b53 : ∀ (s0 : Int32) (s1 : Int32), rg 0 15 s0 → rg 0 16 s1 → X 53 [] [.inl s1, .inl s0] f g := by
    intro s0 s1 hs0 hs1
    refine hX.1 10 _ rfl _ _ _ _ ?_
    exact And.intro mRt_i (hK _ (rg_w (c := 0) (d := 31) (show rg 0 31 _ from (rg_or (k := 5) hs0 hs1 (by decide +kernel))) (by decide +kernel)) )
  have b41 : ∀ (a2 : Int32) (a3 : Int32) (s0 : Int32) (s1 : Int32), rg 0 1 a2 → rg 0 1 a3 → rg 0 7 s0 → rg 0 8 s1 → X 41 [(2, .inl a2), (3, .inl a3)] [.inl s1, .inl s0] f g := by
    intro a2 a3 s0 s1 ha2 ha3 hs0 hs1
    refine hX.1 8 _ rfl _ _ _ _ ?_
    refine And.intro (fun c6 => ?_) (fun c6 => ?_)
    · -- 52
      refine hX.1 9 _ rfl _ _ _ _ ?_
      exact hX.2 _ _ [] _ _ _ mW0 (b53 _ _ (rg_w (c := 0) (d := 15) (show rg 0 15 _ from (rg_or (k := 4) hs0 hs1 (by decide +kernel))) (by decide +kernel)) (rg_w (c := 0) (d := 16) (rg_c (a := 0) (b := 0) (by decide +kernel)) (by decide +kernel)))
    · -- on
      exact hX.2 _ _ [] _ _ _ mW0 (b53 _ _ (rg_w (c := 0) (d := 15) (show rg 0 15 _ from (rg_or (k := 4) hs0 hs1 (by decide +kernel))) (by decide +kernel)) (rg_w (c := 0) (d := 16) (rg_c (a := 16) (b := 16) (by decide +kernel)) (by decide +kernel)))
  have b30 : ∀ (a2 : Int32) (a3 : Int32) (s0 : Int32) (s1 : Int32), rg 0 1 a2 → rg 0 1 a3 → rg 0 2 s0 → rg 0 4 s1 → X 30 [(2, .inl a2), (3, .inl a3)] [.inl s1, .inl s0] f g := by
    intro a2 a3 s0 s1 ha2 ha3 hs0 hs1
    refine hX.1 6 _ rfl _ _ _ _ ?_
    refine And.intro (fun c7 => ?_) (fun c7 => ?_)
    · -- 40
      refine hX.1 7 _ rfl _ _ _ _ ?_
      exact hX.2 _ _ [(2, .inl _), (3, .inl _)] _ _ _ (mWc rfl (mWc rfl mW0)) (b41 _ _ _ _ (rg_w (c := 0) (d := 1) (show rg 0 0 _ from (rg_eq (rg_c (a := 0) (b := 0) (by decide +kernel)) c7)) (by decide +kernel)) (rg_w (c := 0) (d := 1) ha3 (by decide +kernel)) (rg_w (c := 0) (d := 7) (show rg 0 7 _ from (rg_or (k := 3) hs0 hs1 (by decide +kernel))) (by decide +kernel)) (rg_w (c := 0) (d := 8) (rg_c (a := 0) (b := 0) (by decide +kernel)) (by decide +kernel)))
    · -- on
      exact hX.2 _ _ [(2, .inl _), (3, .inl _)] _ _ _ (mWc rfl (mWc rfl mW0)) (b41 _ _ _ _ (rg_w (c := 0) (d := 1) (show rg 1 1 _ from (rg_neL ha2 (rg_c (a := 0) (b := 0) (by decide +kernel)) c7 (by decide +kernel))) (by decide +kernel)) (rg_w (c := 0) (d := 1) ha3 (by decide +kernel)) (rg_w (c := 0) (d := 7) (show rg 0 7 _ from (rg_or (k := 3) hs0 hs1 (by decide +kernel))) (by decide +kernel)) (rg_w (c := 0) (d := 8) (rg_c (a := 8) (b := 8) (by decide +kernel)) (by decide +kernel)))
  have b21 : ∀ (a2 : Int32) (a3 : Int32) (s0 : Int32), rg 0 1 a2 → rg 0 1 a3 → rg 0 2 s0 → X 21 [(2, .inl a2), (3, .inl a3)] [.inl s0] f g := by
    intro a2 a3 s0 ha2 ha3 hs0
    refine hX.1 4 _ rfl _ _ _ _ ?_
    refine And.intro (fun c8 => ?_) (fun c8 => ?_)
    · -- 29
      refine hX.1 5 _ rfl _ _ _ _ ?_
      exact hX.2 _ _ [(2, .inl _), (3, .inl _)] _ _ _ (mWc rfl (mWc rfl mW0)) (b30 _ _ _ _ (rg_w (c := 0) (d := 1) ha2 (by decide +kernel)) (rg_w (c := 0) (d := 1) (show rg 0 0 _ from (rg_eq (rg_c (a := 0) (b := 0) (by decide +kernel)) c8)) (by decide +kernel)) (rg_w (c := 0) (d := 2) hs0 (by decide +kernel)) (rg_w (c := 0) (d := 4) (rg_c (a := 0) (b := 0) (by decide +kernel)) (by decide +kernel)))
    · -- on
      exact hX.2 _ _ [(2, .inl _), (3, .inl _)] _ _ _ (mWc rfl (mWc rfl mW0)) (b30 _ _ _ _ (rg_w (c := 0) (d := 1) ha2 (by decide +kernel)) (rg_w (c := 0) (d := 1) (show rg 1 1 _ from (rg_neL ha3 (rg_c (a := 0) (b := 0) (by decide +kernel)) c8 (by decide +kernel))) (by decide +kernel)) (rg_w (c := 0) (d := 2) hs0 (by decide +kernel)) (rg_w (c := 0) (d := 4) (rg_c (a := 4) (b := 4) (by decide +kernel)) (by decide +kernel)))
  have b11 : ∀ (a0 : Int32) (a2 : Int32) (s0 : Int32), rg 0 1 a2 → rg 0 1 s0 → X 11 [(0, .inl a0), (2, .inl a2)] [.inl s0] f g := by
    intro a0 a2 s0 ha2 hs0
    refine hX.1 2 _ rfl _ _ _ _ ?_
    refine And.intro (fun c9 => ?_) (fun c9 => ?_)
    · -- 20
      refine hX.1 3 _ rfl _ _ _ _ ?_
      exact hX.2 _ _ [(2, .inl _), (3, .inl _)] _ _ _ (mWc rfl (mWc rfl mW0)) (b21 _ _ _ (rg_w (c := 0) (d := 1) ha2 (by decide +kernel)) (rg_w (c := 0) (d := 1) hs0 (by decide +kernel)) (rg_w (c := 0) (d := 2) (rg_c (a := 0) (b := 0) (by decide +kernel)) (by decide +kernel)))
    · -- on
      exact hX.2 _ _ [(2, .inl _), (3, .inl _)] _ _ _ (mWc rfl (mWc rfl mW0)) (b21 _ _ _ (rg_w (c := 0) (d := 1) ha2 (by decide +kernel)) (rg_w (c := 0) (d := 1) hs0 (by decide +kernel)) (rg_w (c := 0) (d := 2) (rg_c (a := 2) (b := 2) (by decide +kernel)) (by decide +kernel)))
  refine hX.1 0 _ rfl _ _ _ _ ?_
  refine And.intro (fun c10 => ?_) (fun c10 => ?_)
  · -- 10
    refine hX.1 1 _ rfl _ _ _ _ ?_
    exact hX.2 _ _ [(0, .inl _), (2, .inl _)] _ _ _ (mWc rfl (mWc rfl mW0)) (b11 _ _ _ (rg_w (c := 0) (d := 1) hx2 (by decide +kernel)) (rg_w (c := 0) (d := 1) (rg_c (a := 0) (b := 0) (by decide +kernel)) (by decide +kernel)))
  · -- on
    exact hX.2 _ _ [(0, .inl _), (2, .inl _)] _ _ _ (mWc rfl (mWc rfl mW0)) (b11 _ _ _ (rg_w (c := 0) (d := 1) hx2 (by decide +kernel)) (rg_w (c := 0) (d := 1) (rg_c (a := 1) (b := 1) (by decide +kernel)) (by decide +kernel)))
def SPX0_mark (S : mSp) : Prop := ∀ (n e : Int) (f0 f : mFn) (g : mGn) (K : mKr) (x1 : Int32) (x2 : Int32), rg 1 63 x1 → rg 0 63 x2 → cI n e f0 f g → (∀ (f' : mFn) (g' : mGn), cI n e f0 f' g' → K none f' g') → S [.inr 8, .inl x1, .inl x2] f g K
set_option maxRecDepth 100000 in
set_option maxHeartbeats 4000000 in
theorem sfX0_mark : SPX0_mark spX0_mark := by
  intro n e f0 f g K x1 x2 hx1 hx2 hI hK
  refine ⟨rfl, fun X hX => ?_⟩
  refine hX.1 0 _ rfl _ _ _ _ ?_
  refine And.intro (rg_in (rg_c (a := 95) (b := 95) (by decide +kernel)) (by decide +kernel)) ?_
  refine And.intro (rg_in (rg_c (a := 95) (b := 95) (by decide +kernel)) (by decide +kernel)) ?_
  exact And.intro mRt_v (hK _ _ (gI_a0 hI (by decide +kernel)))
def SPX0_add (S : mSp) : Prop := ∀ (n e : Int) (f0 f : mFn) (g : mGn) (K : mKr) (x1 : Int32) (x2 : Int32) (x3 : Int32), rg 0 1 x3 → cI n e f0 f g → (∀ (y : Int32) (f' : mFn) (g' : mGn), rg 0 255 y → cI n e f0 f' g' → K (some (.inl y)) f' g') → S [.inr 8, .inl x1, .inl x2, .inl x3] f g K
set_option maxRecDepth 100000 in
set_option maxHeartbeats 4000000 in
theorem sfX0_add : SPX0_add spX0_add := by
  intro n e f0 f g K x1 x2 x3 hx3 hI hK
  refine ⟨rfl, fun X hX => ?_⟩
  obtain ⟨S_X0_signed, k_X0_signed, S_X0_signs, k_X0_signs, S_X0_mark, k_X0_mark, hX⟩ : ∃ S_X0_signed, SPX0_signed S_X0_signed ∧ ∃ S_X0_signs, SPX0_signs S_X0_signs ∧ ∃ S_X0_mark, SPX0_mark S_X0_mark ∧ mR shC fdX0_add [(15, 1, 1, 0, S_X0_signed), (19, 1, 3, 0, S_X0_signs), (23, 0, 2, 3, S_X0_mark)] bsX0_add (fun r f g => mRt (some .int) r ∧ K r f g) X := ⟨spX0_signed, sfX0_signed, spX0_signs, sfX0_signs, spX0_mark, sfX0_mark, hX⟩
  have b90 : ∀ (a4 : Int32) (a6 : Int32) (f : mFn) (g : mGn), rg 0 63 a6 → cI n e f0 f g → X 90 [(0, .inr 8), (4, .inl a4), (6, .inl a6)] [] f g := by
    intro a4 a6 f g ha6 hI
    refine hX.1 5 _ rfl _ _ _ _ ?_
    refine k_X0_mark n e f0 _ _ _ _ _ (rg_w (c := 1) (d := 63) (rg_c (a := 63) (b := 63) (by decide +kernel)) (by decide +kernel)) (rg_w (c := 0) (d := 63) ha6 (by decide +kernel)) hI (fun f18 gf18 hI19 => ?_)
    exact And.intro mRt_i (hK _ _ _ (rg_w (c := 0) (d := 255) (show rg 0 255 _ from (rg_andR (rg_c (a := 255) (b := 255) (by decide +kernel)) (by decide +kernel))) (by decide +kernel)) hI19)
  have b67 : ∀ (a1 : Int32) (a2 : Int32) (a3 : Int32) (a4 : Int32) (a6 : Int32) (f : mFn) (g : mGn), rg 0 1 a3 → rg 0 31 a6 → cI n e f0 f g → X 67 [(0, .inr 8), (1, .inl a1), (2, .inl a2), (3, .inl a3), (4, .inl a4), (6, .inl a6)] [] f g := by
    intro a1 a2 a3 a4 a6 f g ha3 ha6 hI
    refine hX.1 4 _ rfl _ _ _ _ ?_
    refine And.intro (fun c20 => ?_) (fun c20 => ?_)
    · -- 90
      exact hX.2 _ _ [(0, .inr 8), (4, .inl _), (6, .inl _)] _ _ _ (mWc rfl (mWc rfl (mWc rfl mW0))) (b90 _ _ _ _ (rg_w (c := 0) (d := 63) ha6 (by decide +kernel)) hI)
    · -- on
      exact hX.2 _ _ [(0, .inr 8), (4, .inl _), (6, .inl _)] _ _ _ (mWc rfl (mWc rfl (mWc rfl mW0))) (b90 _ _ _ _ (rg_w (c := 0) (d := 63) (show rg 0 63 _ from (rg_or (k := 6) ha6 (rg_c (a := 32) (b := 32) (by decide +kernel)) (by decide +kernel))) (by decide +kernel)) hI)
  have b48 : ∀ (a1 : Int32) (a2 : Int32) (a3 : Int32) (a4 : Int32) (s0 : Int32) (s1 : Int32) (s2 : Int32) (f : mFn) (g : mGn), rg 0 1 a3 → rg 0 255 s0 → rg 128 128 s1 → rg 0 1 s2 → cI n e f0 f g → X 48 [(0, .inr 8), (1, .inl a1), (2, .inl a2), (3, .inl a3), (4, .inl a4)] [.inl s2, .inl s1, .inl s0] f g := by
    intro a1 a2 a3 a4 s0 s1 s2 f g ha3 hs0 hs1 hs2 hI
    refine hX.1 3 _ rfl _ _ _ _ ?_
    refine k_X0_signs n e f0 _ _ _ _ _ _ (rg_w (c := 128) (d := 32768) hs1 (by decide +kernel)) (rg_w (c := 0) (d := 1) hs2 (by decide +kernel)) hI (fun y21 hy21 => ?_)
    refine And.intro (fun c24 => ?_) (fun c24 => ?_)
    · -- 67
      exact hX.2 _ _ [(0, .inr 8), (1, .inl _), (2, .inl _), (3, .inl _), (4, .inl _), (6, .inl _)] _ _ _ (mWc rfl (mWc rfl (mWc rfl (mWc rfl (mWc rfl (mWc rfl mW0)))))) (b67 _ _ _ _ _ _ _ (rg_w (c := 0) (d := 1) ha3 (by decide +kernel)) (rg_w (c := 0) (d := 31) hy21 (by decide +kernel)) hI)
    · -- on
      exact hX.2 _ _ [(0, .inr 8), (1, .inl _), (2, .inl _), (3, .inl _), (4, .inl _), (6, .inl _)] _ _ _ (mWc rfl (mWc rfl (mWc rfl (mWc rfl (mWc rfl (mWc rfl mW0)))))) (b67 _ _ _ _ _ _ _ (rg_w (c := 0) (d := 1) ha3 (by decide +kernel)) (rg_w (c := 0) (d := 31) (show rg 0 31 _ from (rg_or (k := 5) hy21 (rg_c (a := 1) (b := 1) (by decide +kernel)) (by decide +kernel))) (by decide +kernel)) hI)
  have b43 : ∀ (a1 : Int32) (a2 : Int32) (a3 : Int32) (a4 : Int32) (s0 : Int32) (s1 : Int32) (f : mFn) (g : mGn), rg 0 1 a3 → rg 0 255 s0 → rg 128 128 s1 → cI n e f0 f g → X 43 [(0, .inr 8), (1, .inl a1), (2, .inl a2), (3, .inl a3), (4, .inl a4)] [.inl s1, .inl s0] f g := by
    intro a1 a2 a3 a4 s0 s1 f g ha3 hs0 hs1 hI
    refine hX.1 1 _ rfl _ _ _ _ ?_
    exact hX.2 _ _ [(0, .inr 8), (1, .inl _), (2, .inl _), (3, .inl _), (4, .inl _)] _ _ _ (mWc rfl (mWc rfl (mWc rfl (mWc rfl (mWc rfl mW0))))) (b48 _ _ _ _ _ _ _ _ _ (rg_w (c := 0) (d := 1) ha3 (by decide +kernel)) (rg_w (c := 0) (d := 255) hs0 (by decide +kernel)) (rg_w (c := 128) (d := 128) hs1 (by decide +kernel)) (rg_w (c := 0) (d := 1) (rg_c (a := 1) (b := 1) (by decide +kernel)) (by decide +kernel)) hI)
  refine hX.1 0 _ rfl _ _ _ _ ?_
  refine k_X0_signed n e f0 _ _ _ _  hI (fun y25 hy25 => ?_)
  refine k_X0_signed n e f0 _ _ _ _  hI (fun y28 hy28 => ?_)
  refine And.intro (fun c31 => ?_) (fun c31 => ?_)
  · -- 43
    exact hX.2 _ _ [(0, .inr 8), (1, .inl _), (2, .inl _), (3, .inl _), (4, .inl _)] _ _ _ (mWc rfl (mWc rfl (mWc rfl (mWc rfl (mWc rfl mW0))))) (b43 _ _ _ _ _ _ _ _ (rg_w (c := 0) (d := 1) hx3 (by decide +kernel)) (rg_w (c := 0) (d := 255) (show rg 0 255 _ from (rg_andR (rg_c (a := 255) (b := 255) (by decide +kernel)) (by decide +kernel))) (by decide +kernel)) (rg_w (c := 128) (d := 128) (rg_c (a := 128) (b := 128) (by decide +kernel)) (by decide +kernel)) hI)
  · -- on
    refine And.intro (fun c32 => ?_) (fun c32 => ?_)
    · -- 47
      refine hX.1 2 _ rfl _ _ _ _ ?_
      exact hX.2 _ _ [(0, .inr 8), (1, .inl _), (2, .inl _), (3, .inl _), (4, .inl _)] _ _ _ (mWc rfl (mWc rfl (mWc rfl (mWc rfl (mWc rfl mW0))))) (b48 _ _ _ _ _ _ _ _ _ (rg_w (c := 0) (d := 1) hx3 (by decide +kernel)) (rg_w (c := 0) (d := 255) (show rg 0 255 _ from (rg_andR (rg_c (a := 255) (b := 255) (by decide +kernel)) (by decide +kernel))) (by decide +kernel)) (rg_w (c := 128) (d := 128) (rg_c (a := 128) (b := 128) (by decide +kernel)) (by decide +kernel)) (rg_w (c := 0) (d := 1) (rg_c (a := 0) (b := 0) (by decide +kernel)) (by decide +kernel)) hI)
    · -- on
      exact hX.2 _ _ [(0, .inr 8), (1, .inl _), (2, .inl _), (3, .inl _), (4, .inl _)] _ _ _ (mWc rfl (mWc rfl (mWc rfl (mWc rfl (mWc rfl mW0))))) (b43 _ _ _ _ _ _ _ _ (rg_w (c := 0) (d := 1) hx3 (by decide +kernel)) (rg_w (c := 0) (d := 255) (show rg 0 255 _ from (rg_andR (rg_c (a := 255) (b := 255) (by decide +kernel)) (by decide +kernel))) (by decide +kernel)) (rg_w (c := 128) (d := 128) (rg_c (a := 128) (b := 128) (by decide +kernel)) (by decide +kernel)) hI)
def SPX0_markPair (S : mSp) : Prop := ∀ (n e : Int) (f0 f : mFn) (g : mGn) (K : mKr) (x1 : Int32) (x2 : Int32) (x3 : Int32), rg 0 65535 x1 → rg 0 1 x2 → rg 0 1 x3 → cI n e f0 f g → (∀ (f' : mFn) (g' : mGn), cI n e f0 f' g' → K none f' g') → S [.inr 8, .inl x1, .inl x2, .inl x3] f g K
set_option maxRecDepth 100000 in
set_option maxHeartbeats 4000000 in
theorem sfX0_markPair : SPX0_markPair spX0_markPair := by
  intro n e f0 f g K x1 x2 x3 hx1 hx2 hx3 hI hK
  refine ⟨rfl, fun X hX => ?_⟩
  obtain ⟨S_X0_signs, k_X0_signs, S_X0_mark, k_X0_mark, hX⟩ : ∃ S_X0_signs, SPX0_signs S_X0_signs ∧ ∃ S_X0_mark, SPX0_mark S_X0_mark ∧ mR shC fdX0_markPair [(19, 1, 3, 0, S_X0_signs), (23, 0, 2, 3, S_X0_mark)] bsX0_markPair (fun r f g => mRt none r ∧ K r f g) X := ⟨spX0_signs, sfX0_signs, spX0_mark, sfX0_mark, hX⟩
  have b19 : ∀ (s1 : Int32) (s2 : Int32) (s3 : Int32) (f : mFn) (g : mGn), rg 31 31 s1 → rg 0 31 s2 → rg 0 1 s3 → cI n e f0 f g → X 19 [] [.inl s3, .inl s2, .inl s1, .inr 8] f g := by
    intro s1 s2 s3 f g hs1 hs2 hs3 hI
    refine hX.1 2 _ rfl _ _ _ _ ?_
    refine k_X0_mark n e f0 _ _ _ _ _ (rg_w (c := 1) (d := 63) hs1 (by decide +kernel)) (rg_w (c := 0) (d := 63) (show rg 0 31 _ from (rg_or (k := 5) hs2 hs3 (by decide +kernel))) (by decide +kernel)) hI (fun f9 gf9 hI10 => ?_)
    exact And.intro mRt_v (hK _ _ hI10)
  refine hX.1 0 _ rfl _ _ _ _ ?_
  refine k_X0_signs n e f0 _ _ _ _ _ _ (rg_w (c := 128) (d := 32768) (rg_c (a := 32768) (b := 32768) (by decide +kernel)) (by decide +kernel)) (rg_w (c := 0) (d := 1) hx2 (by decide +kernel)) hI (fun y11 hy11 => ?_)
  refine And.intro (fun c14 => ?_) (fun c14 => ?_)
  · -- 18
    refine hX.1 1 _ rfl _ _ _ _ ?_
    exact hX.2 _ _ [] _ _ _ mW0 (b19 _ _ _ _ _ (rg_w (c := 31) (d := 31) (rg_c (a := 31) (b := 31) (by decide +kernel)) (by decide +kernel)) (rg_w (c := 0) (d := 31) hy11 (by decide +kernel)) (rg_w (c := 0) (d := 1) (rg_c (a := 0) (b := 0) (by decide +kernel)) (by decide +kernel)) hI)
  · -- on
    exact hX.2 _ _ [] _ _ _ mW0 (b19 _ _ _ _ _ (rg_w (c := 31) (d := 31) (rg_c (a := 31) (b := 31) (by decide +kernel)) (by decide +kernel)) (rg_w (c := 0) (d := 31) hy11 (by decide +kernel)) (rg_w (c := 0) (d := 1) (rg_c (a := 1) (b := 1) (by decide +kernel)) (by decide +kernel)) hI)
def SPX0_addToPair (S : mSp) : Prop := ∀ (n e : Int) (f0 f : mFn) (g : mGn) (K : mKr) (x1 : Int32) (x2 : Int32), rg 0 63 x2 → cI n e f0 f g → (∀ (y : Int32) (f' : mFn) (g' : mGn), rg 0 65535 y → cI n e f0 f' g' → K (some (.inl y)) f' g') → S [.inr 8, .inl x1, .inl x2] f g K
set_option maxRecDepth 100000 in
set_option maxHeartbeats 4000000 in
theorem sfX0_addToPair : SPX0_addToPair spX0_addToPair := by
  intro n e f0 f g K x1 x2 hx2 hI hK
  refine ⟨rfl, fun X hX => ?_⟩
  obtain ⟨S_X0_markPair, k_X0_markPair, hX⟩ : ∃ S_X0_markPair, SPX0_markPair S_X0_markPair ∧ mR shC fdX0_addToPair [(40, 0, 3, 3, S_X0_markPair)] bsX0_addToPair (fun r f g => mRt (some .int) r ∧ K r f g) X := ⟨spX0_markPair, sfX0_markPair, hX⟩
  have b41 : ∀ (a4 : Int32) (s1 : Int32) (s2 : Int32) (s3 : Int32) (f : mFn) (g : mGn), rg 0 65535 a4 → rg 0 65535 s1 → rg 0 1 s2 → rg 0 1 s3 → cI n e f0 f g → X 41 [(4, .inl a4)] [.inl s3, .inl s2, .inl s1, .inr 8] f g := by
    intro a4 s1 s2 s3 f g ha4 hs1 hs2 hs3 hI
    refine hX.1 4 _ rfl _ _ _ _ ?_
    refine k_X0_markPair n e f0 _ _ _ _ _ _ (rg_w (c := 0) (d := 65535) hs1 (by decide +kernel)) (rg_w (c := 0) (d := 1) hs2 (by decide +kernel)) (rg_w (c := 0) (d := 1) hs3 (by decide +kernel)) hI (fun f7 gf7 hI8 => ?_)
    exact And.intro mRt_i (hK _ _ _ (rg_w (c := 0) (d := 65535) ha4 (by decide +kernel)) hI8)
  have b30 : ∀ (a3 : Int32) (a4 : Int32) (s1 : Int32) (s2 : Int32) (f : mFn) (g : mGn), rg 0 65535 a4 → rg 0 65535 s1 → rg 0 1 s2 → cI n e f0 f g → X 30 [(3, .inl a3), (4, .inl a4)] [.inl s2, .inl s1, .inr 8] f g := by
    intro a3 a4 s1 s2 f g ha4 hs1 hs2 hI
    refine hX.1 2 _ rfl _ _ _ _ ?_
    refine And.intro (fun c9 => ?_) (fun c9 => ?_)
    · -- 40
      refine hX.1 3 _ rfl _ _ _ _ ?_
      exact hX.2 _ _ [(4, .inl _)] _ _ _ (mWc rfl mW0) (b41 _ _ _ _ _ _ (rg_w (c := 0) (d := 65535) ha4 (by decide +kernel)) (rg_w (c := 0) (d := 65535) hs1 (by decide +kernel)) (rg_w (c := 0) (d := 1) hs2 (by decide +kernel)) (rg_w (c := 0) (d := 1) (rg_c (a := 0) (b := 0) (by decide +kernel)) (by decide +kernel)) hI)
    · -- on
      exact hX.2 _ _ [(4, .inl _)] _ _ _ (mWc rfl mW0) (b41 _ _ _ _ _ _ (rg_w (c := 0) (d := 65535) ha4 (by decide +kernel)) (rg_w (c := 0) (d := 65535) hs1 (by decide +kernel)) (rg_w (c := 0) (d := 1) hs2 (by decide +kernel)) (rg_w (c := 0) (d := 1) (rg_c (a := 1) (b := 1) (by decide +kernel)) (by decide +kernel)) hI)
  refine hX.1 0 _ rfl _ _ _ _ ?_
  refine And.intro (fun c10 => ?_) (fun c10 => ?_)
  · -- 29
    refine hX.1 1 _ rfl _ _ _ _ ?_
    exact hX.2 _ _ [(3, .inl _), (4, .inl _)] _ _ _ (mWc rfl (mWc rfl mW0)) (b30 _ _ _ _ _ _ (rg_w (c := 0) (d := 65535) (show rg 0 65535 _ from (rg_andR (rg_c (a := 65535) (b := 65535) (by decide +kernel)) (by decide +kernel))) (by decide +kernel)) (rg_w (c := 0) (d := 65535) (show rg 0 65535 _ from (rg_andR (rg_c (a := 65535) (b := 65535) (by decide +kernel)) (by decide +kernel))) (by decide +kernel)) (rg_w (c := 0) (d := 1) (rg_c (a := 0) (b := 0) (by decide +kernel)) (by decide +kernel)) hI)
  · -- on
    exact hX.2 _ _ [(3, .inl _), (4, .inl _)] _ _ _ (mWc rfl (mWc rfl mW0)) (b30 _ _ _ _ _ _ (rg_w (c := 0) (d := 65535) (show rg 0 65535 _ from (rg_andR (rg_c (a := 65535) (b := 65535) (by decide +kernel)) (by decide +kernel))) (by decide +kernel)) (rg_w (c := 0) (d := 65535) (show rg 0 65535 _ from (rg_andR (rg_c (a := 65535) (b := 65535) (by decide +kernel)) (by decide +kernel))) (by decide +kernel)) (rg_w (c := 0) (d := 1) (rg_c (a := 1) (b := 1) (by decide +kernel)) (by decide +kernel)) hI)
def SPX0_carry (S : mSp) : Prop := ∀ (n e : Int) (f0 f : mFn) (g : mGn) (K : mKr), cI n e f0 f g → (∀ (y : Int32), rg 0 1 y → K (some (.inl y)) f g) → S [.inr 8] f g K
set_option maxRecDepth 100000 in
set_option maxHeartbeats 4000000 in
theorem sfX0_carry : SPX0_carry spX0_carry := by
  intro n e f0 f g K   hI hK
  refine ⟨rfl, fun X hX => ?_⟩
  refine hX.1 0 _ rfl _ _ _ _ ?_
  refine And.intro (rg_in (rg_c (a := 95) (b := 95) (by decide +kernel)) (by decide +kernel)) ?_
  exact And.intro mRt_i (hK _ (rg_w (c := 0) (d := 1) (show rg 0 1 _ from (rg_andR (rg_c (a := 1) (b := 1) (by decide +kernel)) (by decide +kernel))) (by decide +kernel)) )
def SPX0_count (S : mSp) : Prop := ∀ (n e : Int) (f0 f : mFn) (g : mGn) (K : mKr) (x1 : Int32) (x2 : Int32) (x3 : Int32), rg (-1) 1 x2 → rg 127 128 x3 → cI n e f0 f g → (∀ (y : Int32) (f' : mFn) (g' : mGn), rg 0 255 y → cI n e f0 f' g' → K (some (.inl y)) f' g') → S [.inr 8, .inl x1, .inl x2, .inl x3] f g K
set_option maxRecDepth 100000 in
set_option maxHeartbeats 4000000 in
theorem sfX0_count : SPX0_count spX0_count := by
  intro n e f0 f g K x1 x2 x3 hx2 hx3 hI hK
  refine ⟨rfl, fun X hX => ?_⟩
  obtain ⟨S_X0_signs, k_X0_signs, S_X0_mark, k_X0_mark, hX⟩ : ∃ S_X0_signs, SPX0_signs S_X0_signs ∧ ∃ S_X0_mark, SPX0_mark S_X0_mark ∧ mR shC fdX0_count [(19, 1, 3, 0, S_X0_signs), (23, 0, 2, 3, S_X0_mark)] bsX0_count (fun r f g => mRt (some .int) r ∧ K r f g) X := ⟨spX0_signs, sfX0_signs, spX0_mark, sfX0_mark, hX⟩
  have b28 : ∀ (a4 : Int32) (s1 : Int32) (s2 : Int32) (s3 : Int32) (s4 : Int32) (f : mFn) (g : mGn), rg 0 255 a4 → rg 30 30 s1 → rg 0 255 s2 → rg 128 128 s3 → rg 0 1 s4 → cI n e f0 f g → X 28 [(4, .inl a4)] [.inl s4, .inl s3, .inl s2, .inl s1, .inr 8] f g := by
    intro a4 s1 s2 s3 s4 f g ha4 hs1 hs2 hs3 hs4 hI
    refine hX.1 2 _ rfl _ _ _ _ ?_
    refine k_X0_signs n e f0 _ _ _ _ _ _ (rg_w (c := 128) (d := 32768) hs3 (by decide +kernel)) (rg_w (c := 0) (d := 1) hs4 (by decide +kernel)) hI (fun y8 hy8 => ?_)
    refine k_X0_mark n e f0 _ _ _ _ _ (rg_w (c := 1) (d := 63) hs1 (by decide +kernel)) (rg_w (c := 0) (d := 63) hy8 (by decide +kernel)) hI (fun f12 gf12 hI13 => ?_)
    exact And.intro mRt_i (hK _ _ _ (rg_w (c := 0) (d := 255) ha4 (by decide +kernel)) hI13)
  refine hX.1 0 _ rfl _ _ _ _ ?_
  refine And.intro (fun c14 => ?_) (fun c14 => ?_)
  · -- 27
    refine hX.1 1 _ rfl _ _ _ _ ?_
    exact hX.2 _ _ [(4, .inl _)] _ _ _ (mWc rfl mW0) (b28 _ _ _ _ _ _ _ (rg_w (c := 0) (d := 255) (show rg 0 255 _ from (rg_andR (rg_c (a := 255) (b := 255) (by decide +kernel)) (by decide +kernel))) (by decide +kernel)) (rg_w (c := 30) (d := 30) (rg_c (a := 30) (b := 30) (by decide +kernel)) (by decide +kernel)) (rg_w (c := 0) (d := 255) (show rg 0 255 _ from (rg_andR (rg_c (a := 255) (b := 255) (by decide +kernel)) (by decide +kernel))) (by decide +kernel)) (rg_w (c := 128) (d := 128) (rg_c (a := 128) (b := 128) (by decide +kernel)) (by decide +kernel)) (rg_w (c := 0) (d := 1) (rg_c (a := 0) (b := 0) (by decide +kernel)) (by decide +kernel)) hI)
  · -- on
    exact hX.2 _ _ [(4, .inl _)] _ _ _ (mWc rfl mW0) (b28 _ _ _ _ _ _ _ (rg_w (c := 0) (d := 255) (show rg 127 128 _ from (rg_eq hx3 c14)) (by decide +kernel)) (rg_w (c := 30) (d := 30) (rg_c (a := 30) (b := 30) (by decide +kernel)) (by decide +kernel)) (rg_w (c := 0) (d := 255) (show rg 127 128 _ from (rg_eq hx3 c14)) (by decide +kernel)) (rg_w (c := 128) (d := 128) (rg_c (a := 128) (b := 128) (by decide +kernel)) (by decide +kernel)) (rg_w (c := 0) (d := 1) (rg_c (a := 1) (b := 1) (by decide +kernel)) (by decide +kernel)) hI)
def SPX0_logic (S : mSp) : Prop := ∀ (n e : Int) (f0 f : mFn) (g : mGn) (K : mKr) (x1 : Int32), cI n e f0 f g → (∀ (y : Int32) (f' : mFn) (g' : mGn), cI n e f0 f' g' → K (some (.inl y)) f' g') → S [.inr 8, .inl x1] f g K
set_option maxRecDepth 100000 in
set_option maxHeartbeats 4000000 in
theorem sfX0_logic : SPX0_logic spX0_logic := by
  intro n e f0 f g K x1  hI hK
  refine ⟨rfl, fun X hX => ?_⟩
  obtain ⟨S_X0_signs, k_X0_signs, S_X0_mark, k_X0_mark, hX⟩ : ∃ S_X0_signs, SPX0_signs S_X0_signs ∧ ∃ S_X0_mark, SPX0_mark S_X0_mark ∧ mR shC fdX0_logic [(19, 1, 3, 0, S_X0_signs), (23, 0, 2, 3, S_X0_mark)] bsX0_logic (fun r f g => mRt (some .int) r ∧ K r f g) X := ⟨spX0_signs, sfX0_signs, spX0_mark, sfX0_mark, hX⟩
  refine hX.1 0 _ rfl _ _ _ _ ?_
  refine k_X0_signs n e f0 _ _ _ _ _ _ (rg_w (c := 128) (d := 32768) (rg_c (a := 128) (b := 128) (by decide +kernel)) (by decide +kernel)) (rg_w (c := 0) (d := 1) (rg_c (a := 0) (b := 0) (by decide +kernel)) (by decide +kernel)) hI (fun y7 hy7 => ?_)
  refine k_X0_mark n e f0 _ _ _ _ _ (rg_w (c := 1) (d := 63) (rg_c (a := 30) (b := 30) (by decide +kernel)) (by decide +kernel)) (rg_w (c := 0) (d := 63) hy7 (by decide +kernel)) hI (fun f11 gf11 hI12 => ?_)
  exact And.intro mRt_i (hK _ _ _ hI12)
def SPX0_invert (S : mSp) : Prop := ∀ (n e : Int) (f0 f : mFn) (g : mGn) (K : mKr) (x1 : Int32), cI n e f0 f g → (∀ (y : Int32) (f' : mFn) (g' : mGn), cI n e f0 f' g' → K (some (.inl y)) f' g') → S [.inr 8, .inl x1] f g K
set_option maxRecDepth 100000 in
set_option maxHeartbeats 4000000 in
theorem sfX0_invert : SPX0_invert spX0_invert := by
  intro n e f0 f g K x1  hI hK
  refine ⟨rfl, fun X hX => ?_⟩
  obtain ⟨S_X0_mark, k_X0_mark, S_X0_logic, k_X0_logic, hX⟩ : ∃ S_X0_mark, SPX0_mark S_X0_mark ∧ ∃ S_X0_logic, SPX0_logic S_X0_logic ∧ mR shC fdX0_invert [(23, 0, 2, 3, S_X0_mark), (35, 0, 1, 3, S_X0_logic)] bsX0_invert (fun r f g => mRt (some .int) r ∧ K r f g) X := ⟨spX0_mark, sfX0_mark, spX0_logic, sfX0_logic, hX⟩
  refine hX.1 0 _ rfl _ _ _ _ ?_
  refine k_X0_mark n e f0 _ _ _ _ _ (rg_w (c := 1) (d := 63) (rg_c (a := 1) (b := 1) (by decide +kernel)) (by decide +kernel)) (rg_w (c := 0) (d := 63) (rg_c (a := 1) (b := 1) (by decide +kernel)) (by decide +kernel)) hI (fun f8 gf8 hI9 => ?_)
  refine k_X0_logic n e f0 _ _ _ _  hI9 (fun y10 f11 gf11 hI12 => ?_)
  exact And.intro mRt_i (hK _ _ _ hI12)
def SPX0_markProduct (S : mSp) : Prop := ∀ (n e : Int) (f0 f : mFn) (g : mGn) (K : mKr) (x1 : Int32) (x2 : Int32), rg 0 65535 x2 → cI n e f0 f g → (∀ (f' : mFn) (g' : mGn), cI n e f0 f' g' → K none f' g') → S [.inr 8, .inl x1, .inl x2] f g K
set_option maxRecDepth 100000 in
set_option maxHeartbeats 4000000 in
theorem sfX0_markProduct : SPX0_markProduct spX0_markProduct := by
  intro n e f0 f g K x1 x2 hx2 hI hK
  refine ⟨rfl, fun X hX => ?_⟩
  obtain ⟨S_X0_mark, k_X0_mark, hX⟩ : ∃ S_X0_mark, SPX0_mark S_X0_mark ∧ mR shC fdX0_markProduct [(23, 0, 2, 3, S_X0_mark)] bsX0_markProduct (fun r f g => mRt none r ∧ K r f g) X := ⟨spX0_mark, sfX0_mark, hX⟩
  have b23 : ∀ (s1 : Int32) (s2 : Int32) (s3 : Int32) (f : mFn) (g : mGn), rg 3 3 s1 → rg 0 1 s2 → rg 0 2 s3 → cI n e f0 f g → X 23 [] [.inl s3, .inl s2, .inl s1, .inr 8] f g := by
    intro s1 s2 s3 f g hs1 hs2 hs3 hI
    refine hX.1 4 _ rfl _ _ _ _ ?_
    refine k_X0_mark n e f0 _ _ _ _ _ (rg_w (c := 1) (d := 63) hs1 (by decide +kernel)) (rg_w (c := 0) (d := 63) (show rg 0 3 _ from (rg_or (k := 2) hs2 hs3 (by decide +kernel))) (by decide +kernel)) hI (fun f7 gf7 hI8 => ?_)
    exact And.intro mRt_v (hK _ _ hI8)
  have b14 : ∀ (a2 : Int32) (s1 : Int32) (s2 : Int32) (f : mFn) (g : mGn), rg 0 65535 a2 → rg 3 3 s1 → rg 0 1 s2 → cI n e f0 f g → X 14 [(2, .inl a2)] [.inl s2, .inl s1, .inr 8] f g := by
    intro a2 s1 s2 f g ha2 hs1 hs2 hI
    refine hX.1 2 _ rfl _ _ _ _ ?_
    refine And.intro (fun c9 => ?_) (fun c9 => ?_)
    · -- 22
      refine hX.1 3 _ rfl _ _ _ _ ?_
      exact hX.2 _ _ [] _ _ _ mW0 (b23 _ _ _ _ _ (rg_w (c := 3) (d := 3) hs1 (by decide +kernel)) (rg_w (c := 0) (d := 1) hs2 (by decide +kernel)) (rg_w (c := 0) (d := 2) (rg_c (a := 0) (b := 0) (by decide +kernel)) (by decide +kernel)) hI)
    · -- on
      exact hX.2 _ _ [] _ _ _ mW0 (b23 _ _ _ _ _ (rg_w (c := 3) (d := 3) hs1 (by decide +kernel)) (rg_w (c := 0) (d := 1) hs2 (by decide +kernel)) (rg_w (c := 0) (d := 2) (rg_c (a := 2) (b := 2) (by decide +kernel)) (by decide +kernel)) hI)
  refine hX.1 0 _ rfl _ _ _ _ ?_
  refine And.intro (fun c10 => ?_) (fun c10 => ?_)
  · -- 13
    refine hX.1 1 _ rfl _ _ _ _ ?_
    exact hX.2 _ _ [(2, .inl _)] _ _ _ (mWc rfl mW0) (b14 _ _ _ _ _ (rg_w (c := 0) (d := 65535) hx2 (by decide +kernel)) (rg_w (c := 3) (d := 3) (rg_c (a := 3) (b := 3) (by decide +kernel)) (by decide +kernel)) (rg_w (c := 0) (d := 1) (rg_c (a := 0) (b := 0) (by decide +kernel)) (by decide +kernel)) hI)
  · -- on
    exact hX.2 _ _ [(2, .inl _)] _ _ _ (mWc rfl mW0) (b14 _ _ _ _ _ (rg_w (c := 0) (d := 65535) hx2 (by decide +kernel)) (rg_w (c := 3) (d := 3) (rg_c (a := 3) (b := 3) (by decide +kernel)) (by decide +kernel)) (rg_w (c := 0) (d := 1) (rg_c (a := 1) (b := 1) (by decide +kernel)) (by decide +kernel)) hI)
def SPX0_shiftRight (S : mSp) : Prop := ∀ (n e : Int) (f0 f : mFn) (g : mGn) (K : mKr) (x1 : Int32) (x2 : Int32), rg (-16777216) 16777215 x2 → cI n e f0 f g → (∀ (y : Int32) (f' : mFn) (g' : mGn), cI n e f0 f' g' → K (some (.inl y)) f' g') → S [.inr 8, .inl x1, .inl x2] f g K
set_option maxRecDepth 100000 in
set_option maxHeartbeats 4000000 in
theorem sfX0_shiftRight : SPX0_shiftRight spX0_shiftRight := by
  intro n e f0 f g K x1 x2 hx2 hI hK
  refine ⟨rfl, fun X hX => ?_⟩
  obtain ⟨S_X0_signs, k_X0_signs, S_X0_mark, k_X0_mark, hX⟩ : ∃ S_X0_signs, SPX0_signs S_X0_signs ∧ ∃ S_X0_mark, SPX0_mark S_X0_mark ∧ mR shC fdX0_shiftRight [(19, 1, 3, 0, S_X0_signs), (23, 0, 2, 3, S_X0_mark)] bsX0_shiftRight (fun r f g => mRt (some .int) r ∧ K r f g) X := ⟨spX0_signs, sfX0_signs, spX0_mark, sfX0_mark, hX⟩
  have b69 : ∀ (a3 : Int32) (s1 : Int32) (s2 : Int32) (s3 : Int32) (f : mFn) (g : mGn), rg 31 31 s1 → rg 0 31 s2 → rg 0 1 s3 → cI n e f0 f g → X 69 [(3, .inl a3)] [.inl s3, .inl s2, .inl s1, .inr 8] f g := by
    intro a3 s1 s2 s3 f g hs1 hs2 hs3 hI
    refine hX.1 8 _ rfl _ _ _ _ ?_
    refine k_X0_mark n e f0 _ _ _ _ _ (rg_w (c := 1) (d := 63) hs1 (by decide +kernel)) (rg_w (c := 0) (d := 63) (show rg 0 31 _ from (rg_or (k := 5) hs2 hs3 (by decide +kernel))) (by decide +kernel)) hI (fun f12 gf12 hI13 => ?_)
    exact And.intro mRt_i (hK _ _ _ hI13)
  have b56 : ∀ (a3 : Int32) (a4 : Int32) (s1 : Int32) (s2 : Int32) (s3 : Int32) (s4 : Int32) (f : mFn) (g : mGn), rg 0 1 a4 → rg 31 31 s1 → rg 128 128 s3 → rg 0 1 s4 → cI n e f0 f g → X 56 [(3, .inl a3), (4, .inl a4)] [.inl s4, .inl s3, .inl s2, .inl s1, .inr 8] f g := by
    intro a3 a4 s1 s2 s3 s4 f g ha4 hs1 hs3 hs4 hI
    refine hX.1 6 _ rfl _ _ _ _ ?_
    refine k_X0_signs n e f0 _ _ _ _ _ _ (rg_w (c := 128) (d := 32768) hs3 (by decide +kernel)) (rg_w (c := 0) (d := 1) hs4 (by decide +kernel)) hI (fun y14 hy14 => ?_)
    refine And.intro (fun c17 => ?_) (fun c17 => ?_)
    · -- 68
      refine hX.1 7 _ rfl _ _ _ _ ?_
      exact hX.2 _ _ [(3, .inl _)] _ _ _ (mWc rfl mW0) (b69 _ _ _ _ _ _ (rg_w (c := 31) (d := 31) hs1 (by decide +kernel)) (rg_w (c := 0) (d := 31) hy14 (by decide +kernel)) (rg_w (c := 0) (d := 1) (rg_c (a := 0) (b := 0) (by decide +kernel)) (by decide +kernel)) hI)
    · -- on
      exact hX.2 _ _ [(3, .inl _)] _ _ _ (mWc rfl mW0) (b69 _ _ _ _ _ _ (rg_w (c := 31) (d := 31) hs1 (by decide +kernel)) (rg_w (c := 0) (d := 31) hy14 (by decide +kernel)) (rg_w (c := 0) (d := 1) (rg_c (a := 1) (b := 1) (by decide +kernel)) (by decide +kernel)) hI)
  have b35 : ∀ (a3 : Int32) (a4 : Int32) (s0 : Int32) (f : mFn) (g : mGn), rg 0 1 a4 → rg 0 1 s0 → cI n e f0 f g → X 35 [(0, .inr 8), (3, .inl a3), (4, .inl a4)] [.inl s0] f g := by
    intro a3 a4 s0 f g ha4 hs0 hI
    refine hX.1 4 _ rfl _ _ _ _ ?_
    refine And.intro (fun c18 => ?_) (fun c18 => ?_)
    · -- 55
      refine hX.1 5 _ rfl _ _ _ _ ?_
      exact hX.2 _ _ [(3, .inl _), (4, .inl _)] _ _ _ (mWc rfl (mWc rfl mW0)) (b56 _ _ _ _ _ _ _ _ (rg_w (c := 0) (d := 1) ha4 (by decide +kernel)) (rg_w (c := 31) (d := 31) (rg_c (a := 31) (b := 31) (by decide +kernel)) (by decide +kernel)) (rg_w (c := 128) (d := 128) (rg_c (a := 128) (b := 128) (by decide +kernel)) (by decide +kernel)) (rg_w (c := 0) (d := 1) (rg_c (a := 0) (b := 0) (by decide +kernel)) (by decide +kernel)) hI)
    · -- on
      exact hX.2 _ _ [(3, .inl _), (4, .inl _)] _ _ _ (mWc rfl (mWc rfl mW0)) (b56 _ _ _ _ _ _ _ _ (rg_w (c := 0) (d := 1) ha4 (by decide +kernel)) (rg_w (c := 31) (d := 31) (rg_c (a := 31) (b := 31) (by decide +kernel)) (by decide +kernel)) (rg_w (c := 128) (d := 128) (rg_c (a := 128) (b := 128) (by decide +kernel)) (by decide +kernel)) (rg_w (c := 0) (d := 1) (rg_c (a := 1) (b := 1) (by decide +kernel)) (by decide +kernel)) hI)
  have b20 : ∀ (a3 : Int32) (s0 : Int32) (f : mFn) (g : mGn), rg 0 1 s0 → cI n e f0 f g → X 20 [(0, .inr 8), (3, .inl a3)] [.inl s0] f g := by
    intro a3 s0 f g hs0 hI
    refine hX.1 2 _ rfl _ _ _ _ ?_
    refine And.intro (fun c19 => ?_) (fun c19 => ?_)
    · -- 34
      refine hX.1 3 _ rfl _ _ _ _ ?_
      exact hX.2 _ _ [(0, .inr 8), (3, .inl _), (4, .inl _)] _ _ _ (mWc rfl (mWc rfl (mWc rfl mW0))) (b35 _ _ _ _ _ (rg_w (c := 0) (d := 1) hs0 (by decide +kernel)) (rg_w (c := 0) (d := 1) (rg_c (a := 0) (b := 0) (by decide +kernel)) (by decide +kernel)) hI)
    · -- on
      exact hX.2 _ _ [(0, .inr 8), (3, .inl _), (4, .inl _)] _ _ _ (mWc rfl (mWc rfl (mWc rfl mW0))) (b35 _ _ _ _ _ (rg_w (c := 0) (d := 1) hs0 (by decide +kernel)) (rg_w (c := 0) (d := 1) (rg_c (a := 1) (b := 1) (by decide +kernel)) (by decide +kernel)) hI)
  refine hX.1 0 _ rfl _ _ _ _ ?_
  refine And.intro (fun c20 => ?_) (fun c20 => ?_)
  · -- 19
    refine hX.1 1 _ rfl _ _ _ _ ?_
    exact hX.2 _ _ [(0, .inr 8), (3, .inl _)] _ _ _ (mWc rfl (mWc rfl mW0)) (b20 _ _ _ _ (rg_w (c := 0) (d := 1) (rg_c (a := 0) (b := 0) (by decide +kernel)) (by decide +kernel)) hI)
  · -- on
    exact hX.2 _ _ [(0, .inr 8), (3, .inl _)] _ _ _ (mWc rfl (mWc rfl mW0)) (b20 _ _ _ _ (rg_w (c := 0) (d := 1) (rg_c (a := 1) (b := 1) (by decide +kernel)) (by decide +kernel)) hI)
def SPX0_subtract (S : mSp) : Prop := ∀ (n e : Int) (f0 f : mFn) (g : mGn) (K : mKr) (x1 : Int32) (x2 : Int32) (x3 : Int32), rg 0 1 x3 → cI n e f0 f g → (∀ (y : Int32) (f' : mFn) (g' : mGn), rg 0 255 y → cI n e f0 f' g' → K (some (.inl y)) f' g') → S [.inr 8, .inl x1, .inl x2, .inl x3] f g K
set_option maxRecDepth 100000 in
set_option maxHeartbeats 4000000 in
theorem sfX0_subtract : SPX0_subtract spX0_subtract := by
  intro n e f0 f g K x1 x2 x3 hx3 hI hK
  refine ⟨rfl, fun X hX => ?_⟩
  obtain ⟨S_X0_signed, k_X0_signed, S_X0_signs, k_X0_signs, S_X0_mark, k_X0_mark, hX⟩ : ∃ S_X0_signed, SPX0_signed S_X0_signed ∧ ∃ S_X0_signs, SPX0_signs S_X0_signs ∧ ∃ S_X0_mark, SPX0_mark S_X0_mark ∧ mR shC fdX0_subtract [(15, 1, 1, 0, S_X0_signed), (19, 1, 3, 0, S_X0_signs), (23, 0, 2, 3, S_X0_mark)] bsX0_subtract (fun r f g => mRt (some .int) r ∧ K r f g) X := ⟨spX0_signed, sfX0_signed, spX0_signs, sfX0_signs, spX0_mark, sfX0_mark, hX⟩
  have b85 : ∀ (a4 : Int32) (a6 : Int32) (f : mFn) (g : mGn), rg 0 63 a6 → cI n e f0 f g → X 85 [(0, .inr 8), (4, .inl a4), (6, .inl a6)] [] f g := by
    intro a4 a6 f g ha6 hI
    refine hX.1 5 _ rfl _ _ _ _ ?_
    refine k_X0_mark n e f0 _ _ _ _ _ (rg_w (c := 1) (d := 63) (rg_c (a := 63) (b := 63) (by decide +kernel)) (by decide +kernel)) (rg_w (c := 0) (d := 63) ha6 (by decide +kernel)) hI (fun f18 gf18 hI19 => ?_)
    exact And.intro mRt_i (hK _ _ _ (rg_w (c := 0) (d := 255) (show rg 0 255 _ from (rg_andR (rg_c (a := 255) (b := 255) (by decide +kernel)) (by decide +kernel))) (by decide +kernel)) hI19)
  have b64 : ∀ (a1 : Int32) (a2 : Int32) (a3 : Int32) (a4 : Int32) (a6 : Int32) (f : mFn) (g : mGn), rg 0 1 a3 → rg 0 31 a6 → cI n e f0 f g → X 64 [(0, .inr 8), (1, .inl a1), (2, .inl a2), (3, .inl a3), (4, .inl a4), (6, .inl a6)] [] f g := by
    intro a1 a2 a3 a4 a6 f g ha3 ha6 hI
    refine hX.1 4 _ rfl _ _ _ _ ?_
    refine And.intro (fun c20 => ?_) (fun c20 => ?_)
    · -- 85
      exact hX.2 _ _ [(0, .inr 8), (4, .inl _), (6, .inl _)] _ _ _ (mWc rfl (mWc rfl (mWc rfl mW0))) (b85 _ _ _ _ (rg_w (c := 0) (d := 63) ha6 (by decide +kernel)) hI)
    · -- on
      exact hX.2 _ _ [(0, .inr 8), (4, .inl _), (6, .inl _)] _ _ _ (mWc rfl (mWc rfl (mWc rfl mW0))) (b85 _ _ _ _ (rg_w (c := 0) (d := 63) (show rg 0 63 _ from (rg_or (k := 6) ha6 (rg_c (a := 32) (b := 32) (by decide +kernel)) (by decide +kernel))) (by decide +kernel)) hI)
  have b48 : ∀ (a1 : Int32) (a2 : Int32) (a3 : Int32) (a4 : Int32) (s0 : Int32) (s1 : Int32) (s2 : Int32) (f : mFn) (g : mGn), rg 0 1 a3 → rg 0 255 s0 → rg 128 128 s1 → rg 0 1 s2 → cI n e f0 f g → X 48 [(0, .inr 8), (1, .inl a1), (2, .inl a2), (3, .inl a3), (4, .inl a4)] [.inl s2, .inl s1, .inl s0] f g := by
    intro a1 a2 a3 a4 s0 s1 s2 f g ha3 hs0 hs1 hs2 hI
    refine hX.1 3 _ rfl _ _ _ _ ?_
    refine k_X0_signs n e f0 _ _ _ _ _ _ (rg_w (c := 128) (d := 32768) hs1 (by decide +kernel)) (rg_w (c := 0) (d := 1) hs2 (by decide +kernel)) hI (fun y21 hy21 => ?_)
    refine And.intro (fun c24 => ?_) (fun c24 => ?_)
    · -- 64
      exact hX.2 _ _ [(0, .inr 8), (1, .inl _), (2, .inl _), (3, .inl _), (4, .inl _), (6, .inl _)] _ _ _ (mWc rfl (mWc rfl (mWc rfl (mWc rfl (mWc rfl (mWc rfl mW0)))))) (b64 _ _ _ _ _ _ _ (rg_w (c := 0) (d := 1) ha3 (by decide +kernel)) (rg_w (c := 0) (d := 31) hy21 (by decide +kernel)) hI)
    · -- on
      exact hX.2 _ _ [(0, .inr 8), (1, .inl _), (2, .inl _), (3, .inl _), (4, .inl _), (6, .inl _)] _ _ _ (mWc rfl (mWc rfl (mWc rfl (mWc rfl (mWc rfl (mWc rfl mW0)))))) (b64 _ _ _ _ _ _ _ (rg_w (c := 0) (d := 1) ha3 (by decide +kernel)) (rg_w (c := 0) (d := 31) (show rg 0 31 _ from (rg_or (k := 5) hy21 (rg_c (a := 1) (b := 1) (by decide +kernel)) (by decide +kernel))) (by decide +kernel)) hI)
  have b43 : ∀ (a1 : Int32) (a2 : Int32) (a3 : Int32) (a4 : Int32) (s0 : Int32) (s1 : Int32) (f : mFn) (g : mGn), rg 0 1 a3 → rg 0 255 s0 → rg 128 128 s1 → cI n e f0 f g → X 43 [(0, .inr 8), (1, .inl a1), (2, .inl a2), (3, .inl a3), (4, .inl a4)] [.inl s1, .inl s0] f g := by
    intro a1 a2 a3 a4 s0 s1 f g ha3 hs0 hs1 hI
    refine hX.1 1 _ rfl _ _ _ _ ?_
    exact hX.2 _ _ [(0, .inr 8), (1, .inl _), (2, .inl _), (3, .inl _), (4, .inl _)] _ _ _ (mWc rfl (mWc rfl (mWc rfl (mWc rfl (mWc rfl mW0))))) (b48 _ _ _ _ _ _ _ _ _ (rg_w (c := 0) (d := 1) ha3 (by decide +kernel)) (rg_w (c := 0) (d := 255) hs0 (by decide +kernel)) (rg_w (c := 128) (d := 128) hs1 (by decide +kernel)) (rg_w (c := 0) (d := 1) (rg_c (a := 1) (b := 1) (by decide +kernel)) (by decide +kernel)) hI)
  refine hX.1 0 _ rfl _ _ _ _ ?_
  refine k_X0_signed n e f0 _ _ _ _  hI (fun y25 hy25 => ?_)
  refine k_X0_signed n e f0 _ _ _ _  hI (fun y28 hy28 => ?_)
  refine And.intro (fun c31 => ?_) (fun c31 => ?_)
  · -- 43
    exact hX.2 _ _ [(0, .inr 8), (1, .inl _), (2, .inl _), (3, .inl _), (4, .inl _)] _ _ _ (mWc rfl (mWc rfl (mWc rfl (mWc rfl (mWc rfl mW0))))) (b43 _ _ _ _ _ _ _ _ (rg_w (c := 0) (d := 1) hx3 (by decide +kernel)) (rg_w (c := 0) (d := 255) (show rg 0 255 _ from (rg_andR (rg_c (a := 255) (b := 255) (by decide +kernel)) (by decide +kernel))) (by decide +kernel)) (rg_w (c := 128) (d := 128) (rg_c (a := 128) (b := 128) (by decide +kernel)) (by decide +kernel)) hI)
  · -- on
    refine And.intro (fun c32 => ?_) (fun c32 => ?_)
    · -- 47
      refine hX.1 2 _ rfl _ _ _ _ ?_
      exact hX.2 _ _ [(0, .inr 8), (1, .inl _), (2, .inl _), (3, .inl _), (4, .inl _)] _ _ _ (mWc rfl (mWc rfl (mWc rfl (mWc rfl (mWc rfl mW0))))) (b48 _ _ _ _ _ _ _ _ _ (rg_w (c := 0) (d := 1) hx3 (by decide +kernel)) (rg_w (c := 0) (d := 255) (show rg 0 255 _ from (rg_andR (rg_c (a := 255) (b := 255) (by decide +kernel)) (by decide +kernel))) (by decide +kernel)) (rg_w (c := 128) (d := 128) (rg_c (a := 128) (b := 128) (by decide +kernel)) (by decide +kernel)) (rg_w (c := 0) (d := 1) (rg_c (a := 0) (b := 0) (by decide +kernel)) (by decide +kernel)) hI)
    · -- on
      exact hX.2 _ _ [(0, .inr 8), (1, .inl _), (2, .inl _), (3, .inl _), (4, .inl _)] _ _ _ (mWc rfl (mWc rfl (mWc rfl (mWc rfl (mWc rfl mW0))))) (b43 _ _ _ _ _ _ _ _ (rg_w (c := 0) (d := 1) hx3 (by decide +kernel)) (rg_w (c := 0) (d := 255) (show rg 0 255 _ from (rg_andR (rg_c (a := 255) (b := 255) (by decide +kernel)) (by decide +kernel))) (by decide +kernel)) (rg_w (c := 128) (d := 128) (rg_c (a := 128) (b := 128) (by decide +kernel)) (by decide +kernel)) hI)
def SPX0_subtractFromPair (S : mSp) : Prop := ∀ (n e : Int) (f0 f : mFn) (g : mGn) (K : mKr) (x1 : Int32) (x2 : Int32), rg 0 63 x2 → cI n e f0 f g → (∀ (y : Int32) (f' : mFn) (g' : mGn), rg 0 65535 y → cI n e f0 f' g' → K (some (.inl y)) f' g') → S [.inr 8, .inl x1, .inl x2] f g K
set_option maxRecDepth 100000 in
set_option maxHeartbeats 4000000 in
theorem sfX0_subtractFromPair : SPX0_subtractFromPair spX0_subtractFromPair := by
  intro n e f0 f g K x1 x2 hx2 hI hK
  refine ⟨rfl, fun X hX => ?_⟩
  obtain ⟨S_X0_markPair, k_X0_markPair, hX⟩ : ∃ S_X0_markPair, SPX0_markPair S_X0_markPair ∧ mR shC fdX0_subtractFromPair [(40, 0, 3, 3, S_X0_markPair)] bsX0_subtractFromPair (fun r f g => mRt (some .int) r ∧ K r f g) X := ⟨spX0_markPair, sfX0_markPair, hX⟩
  have b39 : ∀ (a4 : Int32) (s1 : Int32) (s2 : Int32) (s3 : Int32) (f : mFn) (g : mGn), rg 0 65535 a4 → rg 0 65535 s1 → rg 0 1 s2 → rg 0 1 s3 → cI n e f0 f g → X 39 [(4, .inl a4)] [.inl s3, .inl s2, .inl s1, .inr 8] f g := by
    intro a4 s1 s2 s3 f g ha4 hs1 hs2 hs3 hI
    refine hX.1 4 _ rfl _ _ _ _ ?_
    refine k_X0_markPair n e f0 _ _ _ _ _ _ (rg_w (c := 0) (d := 65535) hs1 (by decide +kernel)) (rg_w (c := 0) (d := 1) hs2 (by decide +kernel)) (rg_w (c := 0) (d := 1) hs3 (by decide +kernel)) hI (fun f7 gf7 hI8 => ?_)
    exact And.intro mRt_i (hK _ _ _ (rg_w (c := 0) (d := 65535) ha4 (by decide +kernel)) hI8)
  have b30 : ∀ (a3 : Int32) (a4 : Int32) (s1 : Int32) (s2 : Int32) (f : mFn) (g : mGn), rg 0 65535 a4 → rg 0 65535 s1 → rg 0 1 s2 → cI n e f0 f g → X 30 [(3, .inl a3), (4, .inl a4)] [.inl s2, .inl s1, .inr 8] f g := by
    intro a3 a4 s1 s2 f g ha4 hs1 hs2 hI
    refine hX.1 2 _ rfl _ _ _ _ ?_
    refine And.intro (fun c9 => ?_) (fun c9 => ?_)
    · -- 38
      refine hX.1 3 _ rfl _ _ _ _ ?_
      exact hX.2 _ _ [(4, .inl _)] _ _ _ (mWc rfl mW0) (b39 _ _ _ _ _ _ (rg_w (c := 0) (d := 65535) ha4 (by decide +kernel)) (rg_w (c := 0) (d := 65535) hs1 (by decide +kernel)) (rg_w (c := 0) (d := 1) hs2 (by decide +kernel)) (rg_w (c := 0) (d := 1) (rg_c (a := 0) (b := 0) (by decide +kernel)) (by decide +kernel)) hI)
    · -- on
      exact hX.2 _ _ [(4, .inl _)] _ _ _ (mWc rfl mW0) (b39 _ _ _ _ _ _ (rg_w (c := 0) (d := 65535) ha4 (by decide +kernel)) (rg_w (c := 0) (d := 65535) hs1 (by decide +kernel)) (rg_w (c := 0) (d := 1) hs2 (by decide +kernel)) (rg_w (c := 0) (d := 1) (rg_c (a := 1) (b := 1) (by decide +kernel)) (by decide +kernel)) hI)
  refine hX.1 0 _ rfl _ _ _ _ ?_
  refine And.intro (fun c10 => ?_) (fun c10 => ?_)
  · -- 29
    refine hX.1 1 _ rfl _ _ _ _ ?_
    exact hX.2 _ _ [(3, .inl _), (4, .inl _)] _ _ _ (mWc rfl (mWc rfl mW0)) (b30 _ _ _ _ _ _ (rg_w (c := 0) (d := 65535) (show rg 0 65535 _ from (rg_andR (rg_c (a := 65535) (b := 65535) (by decide +kernel)) (by decide +kernel))) (by decide +kernel)) (rg_w (c := 0) (d := 65535) (show rg 0 65535 _ from (rg_andR (rg_c (a := 65535) (b := 65535) (by decide +kernel)) (by decide +kernel))) (by decide +kernel)) (rg_w (c := 0) (d := 1) (rg_c (a := 0) (b := 0) (by decide +kernel)) (by decide +kernel)) hI)
  · -- on
    exact hX.2 _ _ [(3, .inl _), (4, .inl _)] _ _ _ (mWc rfl (mWc rfl mW0)) (b30 _ _ _ _ _ _ (rg_w (c := 0) (d := 65535) (show rg 0 65535 _ from (rg_andR (rg_c (a := 65535) (b := 65535) (by decide +kernel)) (by decide +kernel))) (by decide +kernel)) (rg_w (c := 0) (d := 65535) (show rg 0 65535 _ from (rg_andR (rg_c (a := 65535) (b := 65535) (by decide +kernel)) (by decide +kernel))) (by decide +kernel)) (rg_w (c := 0) (d := 1) (rg_c (a := 1) (b := 1) (by decide +kernel)) (by decide +kernel)) hI)
def SPX0_subtractOn (S : mSp) : Prop := ∀ (n e : Int) (f0 f : mFn) (g : mGn) (K : mKr) (x1 : Int32) (x2 : Int32), cI n e f0 f g → (∀ (y : Int32) (f' : mFn) (g' : mGn), rg 0 255 y → cI n e f0 f' g' → K (some (.inl y)) f' g') → S [.inr 8, .inl x1, .inl x2] f g K
set_option maxRecDepth 100000 in
set_option maxHeartbeats 4000000 in
theorem sfX0_subtractOn : SPX0_subtractOn spX0_subtractOn := by
  intro n e f0 f g K x1 x2  hI hK
  refine ⟨rfl, fun X hX => ?_⟩
  obtain ⟨S_X0_carry, k_X0_carry, S_X0_subtract, k_X0_subtract, hX⟩ : ∃ S_X0_carry, SPX0_carry S_X0_carry ∧ ∃ S_X0_subtract, SPX0_subtract S_X0_subtract ∧ mR shC fdX0_subtractOn [(27, 0, 0, 3, S_X0_carry), (31, 0, 3, 3, S_X0_subtract)] bsX0_subtractOn (fun r f g => mRt (some .int) r ∧ K r f g) X := ⟨spX0_carry, sfX0_carry, spX0_subtract, sfX0_subtract, hX⟩
  have b38 : ∀ (a4 : Int32) (f : mFn) (g : mGn), rg 0 255 a4 → cI n e f0 f g → X 38 [(4, .inl a4)] [] f g := by
    intro a4 f g ha4 hI
    refine hX.1 1 _ rfl _ _ _ _ ?_
    exact And.intro mRt_i (hK _ _ _ (rg_w (c := 0) (d := 255) ha4 (by decide +kernel)) hI)
  refine hX.1 0 _ rfl _ _ _ _ ?_
  refine And.intro (rg_in (rg_c (a := 95) (b := 95) (by decide +kernel)) (by decide +kernel)) ?_
  refine k_X0_carry n e f0 _ _ _   hI (fun y9 hy9 => ?_)
  refine k_X0_subtract n e f0 _ _ _ _ _ _ (rg_w (c := 0) (d := 1) hy9 (by decide +kernel)) hI (fun y12 f13 gf13 hy12 hI14 => ?_)
  refine And.intro (fun c15 => ?_) (fun c15 => ?_)
  · -- 38
    exact hX.2 _ _ [(4, .inl _)] _ _ _ (mWc rfl mW0) (b38 _ _ _ (rg_w (c := 0) (d := 255) hy12 (by decide +kernel)) hI14)
  · -- on
    refine And.intro (rg_in (rg_c (a := 95) (b := 95) (by decide +kernel)) (by decide +kernel)) ?_
    refine And.intro (rg_in (rg_c (a := 95) (b := 95) (by decide +kernel)) (by decide +kernel)) ?_
    exact hX.2 _ _ [(4, .inl _)] _ _ _ (mWc rfl mW0) (b38 _ _ _ (rg_w (c := 0) (d := 255) hy12 (by decide +kernel)) (gI_a0 hI14 (by decide +kernel)))
def SPX1_pair (S : mSp) : Prop := ∀ (n e : Int) (f0 f : mFn) (g : mGn) (K : mKr) (x1 : Int32), rg 0 30 x1 → cI n e f0 f g → (∀ (y : Int32), K (some (.inl y)) f g) → S [.inr 2, .inl x1] f g K
set_option maxRecDepth 100000 in
set_option maxHeartbeats 4000000 in
theorem sfX1_pair : SPX1_pair spX1_pair := by
  intro n e f0 f g K x1 hx1 hI hK
  refine ⟨rfl, fun X hX => ?_⟩
  refine hX.1 0 _ rfl _ _ _ _ ?_
  refine And.intro (rg_in (show rg 1 31 _ from (rg_add hx1 (rg_c (a := 1) (b := 1) (by decide +kernel)) (by decide +kernel))) (by decide +kernel)) ?_
  refine And.intro (rg_in hx1 (by decide +kernel)) ?_
  exact And.intro mRt_i (hK _ )
def SPX1_first (S : mSp) : Prop := ∀ (n e : Int) (f0 f : mFn) (g : mGn) (K : mKr) (x0 : Int32), cI n e f0 f g → (∀ (y : Int32), rg 0 31 y → K (some (.inl y)) f g) → S [.inl x0] f g K
set_option maxRecDepth 100000 in
set_option maxHeartbeats 4000000 in
theorem sfX1_first : SPX1_first spX1_first := by
  intro n e f0 f g K x0  hI hK
  refine ⟨rfl, fun X hX => ?_⟩
  refine hX.1 0 _ rfl _ _ _ _ ?_
  exact And.intro mRt_i (hK _ (rg_w (c := 0) (d := 31) (show rg 0 31 _ from (rg_andR (rg_c (a := 31) (b := 31) (by decide +kernel)) (by decide +kernel))) (by decide +kernel)) )
def SPX2_storeControl (S : mSp) : Prop := ∀ (n e : Int) (f0 f : mFn) (g : mGn) (K : mKr) (x1 : Int32), cI n e f0 f g → (∀ (y : Int32) (f' : mFn) (g' : mGn), rg 0 4 y → cI n e f0 f' g' → K (some (.inl y)) f' g') → S [.inr 6, .inl x1] f g K
set_option maxRecDepth 100000 in
set_option maxHeartbeats 4000000 in
theorem sfX2_storeControl : SPX2_storeControl spX2_storeControl := by
  intro n e f0 f g K x1  hI hK
  refine ⟨rfl, fun X hX => ?_⟩
  have b123 : ∀ (f : mFn) (g : mGn), cI n e f0 f g → X 123 [] [] f g := by
    intro f g  hI
    refine hX.1 5 _ rfl _ _ _ _ ?_
    exact And.intro mRt_i (hK _ _ _ (rg_w (c := 0) (d := 4) (rg_c (a := 0) (b := 0) (by decide +kernel)) (by decide +kernel)) hI)
  have b103 : ∀ (a1 : Int32) (a2 : Int32) (f : mFn) (g : mGn), cI n e f0 f g → X 103 [(0, .inr 6), (1, .inl a1), (2, .inl a2)] [] f g := by
    intro a1 a2 f g  hI
    refine hX.1 4 _ rfl _ _ _ _ ?_
    refine And.intro (rg_in (rg_c (a := 63) (b := 63) (by decide +kernel)) (by decide +kernel)) ?_
    refine And.intro (fun c15 => ?_) (fun c15 => ?_)
    · -- 123
      exact hX.2 _ _ [] _ _ _ mW0 (b123  _ _  (gI_a0 hI (by decide +kernel)))
    · -- on
      refine And.intro (fun c16 => ?_) (fun c16 => ?_)
      · -- 125
        refine hX.1 6 _ rfl _ _ _ _ ?_
        refine And.intro (rg_in (rg_c (a := 65) (b := 65) (by decide +kernel)) (by decide +kernel)) ?_
        refine And.intro (rg_in (show rg 0 255 _ from (rg_andR (rg_c (a := 255) (b := 255) (by decide +kernel)) (by decide +kernel))) (by decide +kernel)) ?_
        refine And.intro (rg_in (rg_c (a := 64) (b := 64) (by decide +kernel)) (by decide +kernel)) ?_
        exact And.intro mRt_i (hK _ _ _ (rg_w (c := 0) (d := 4) (rg_c (a := 4) (b := 4) (by decide +kernel)) (by decide +kernel)) (gI_a0 (gI_a0 hI (by decide +kernel)) (by decide +kernel)))
      · -- on
        exact hX.2 _ _ [] _ _ _ mW0 (b123  _ _  (gI_a0 hI (by decide +kernel)))
  have b45 : ∀ (a1 : Int32) (a2 : Int32) (a3 : Int32) (f : mFn) (g : mGn), rg 0 1 a3 → cI n e f0 f g → X 45 [(0, .inr 6), (1, .inl a1), (2, .inl a2), (3, .inl a3)] [] f g := by
    intro a1 a2 a3 f g ha3 hI
    refine hX.1 3 _ rfl _ _ _ _ ?_
    refine And.intro (fun c18 => ?_) (fun c18 => ?_)
    · -- 103
      exact hX.2 _ _ [(0, .inr 6), (1, .inl _), (2, .inl _)] _ _ _ (mWc rfl (mWc rfl (mWc rfl mW0))) (b103 _ _ _ _  hI)
    · -- on
      refine And.intro (fun c19 => ?_) (fun c19 => ?_)
      · -- 103
        exact hX.2 _ _ [(0, .inr 6), (1, .inl _), (2, .inl _)] _ _ _ (mWc rfl (mWc rfl (mWc rfl mW0))) (b103 _ _ _ _  hI)
      · -- on
        refine And.intro (fun c20 => ?_) (fun c20 => ?_)
        · -- 103
          exact hX.2 _ _ [(0, .inr 6), (1, .inl _), (2, .inl _)] _ _ _ (mWc rfl (mWc rfl (mWc rfl mW0))) (b103 _ _ _ _  hI)
        · -- on
          refine And.intro (rg_in (rg_c (a := 65) (b := 65) (by decide +kernel)) (by decide +kernel)) ?_
          refine And.intro (rg_in (rg_c (a := 64) (b := 64) (by decide +kernel)) (by decide +kernel)) ?_
          refine And.intro (rg_in (show rg 0 255 _ from (rg_andR (rg_c (a := 255) (b := 255) (by decide +kernel)) (by decide +kernel))) (by decide +kernel)) ?_
          exact hX.2 _ _ [(0, .inr 6), (1, .inl _), (2, .inl _)] _ _ _ (mWc rfl (mWc rfl (mWc rfl mW0))) (b103 _ _ _ _  (cP0 (cP0 (gI_a0 hI (by decide +kernel)) (by decide +kernel)) (by decide +kernel)))
  have b19 : ∀ (a1 : Int32) (a2 : Int32) (s0 : Int32) (f : mFn) (g : mGn), rg 0 1 s0 → cI n e f0 f g → X 19 [(0, .inr 6), (1, .inl a1), (2, .inl a2)] [.inl s0] f g := by
    intro a1 a2 s0 f g hs0 hI
    refine hX.1 2 _ rfl _ _ _ _ ?_
    refine And.intro (fun c24 => ?_) (fun c24 => ?_)
    · -- 45
      exact hX.2 _ _ [(0, .inr 6), (1, .inl _), (2, .inl _), (3, .inl _)] _ _ _ (mWc rfl (mWc rfl (mWc rfl (mWc rfl mW0)))) (b45 _ _ _ _ _ (rg_w (c := 0) (d := 1) hs0 (by decide +kernel)) hI)
    · -- on
      exact hX.2 _ _ [(0, .inr 6), (1, .inl _), (2, .inl _), (3, .inl _)] _ _ _ (mWc rfl (mWc rfl (mWc rfl (mWc rfl mW0)))) (b45 _ _ _ _ _ (rg_w (c := 0) (d := 1) hs0 (by decide +kernel)) (cP0 hI (by decide +kernel)))
  refine hX.1 0 _ rfl _ _ _ _ ?_
  refine And.intro (rg_in (rg_c (a := 63) (b := 63) (by decide +kernel)) (by decide +kernel)) ?_
  refine And.intro (fun c26 => ?_) (fun c26 => ?_)
  · -- 18
    refine hX.1 1 _ rfl _ _ _ _ ?_
    exact hX.2 _ _ [(0, .inr 6), (1, .inl _), (2, .inl _)] _ _ _ (mWc rfl (mWc rfl (mWc rfl mW0))) (b19 _ _ _ _ _ (rg_w (c := 0) (d := 1) (rg_c (a := 0) (b := 0) (by decide +kernel)) (by decide +kernel)) hI)
  · -- on
    exact hX.2 _ _ [(0, .inr 6), (1, .inl _), (2, .inl _)] _ _ _ (mWc rfl (mWc rfl (mWc rfl mW0))) (b19 _ _ _ _ _ (rg_w (c := 0) (d := 1) (rg_c (a := 1) (b := 1) (by decide +kernel)) (by decide +kernel)) hI)
def SPX2_storeOther (S : mSp) : Prop := ∀ (n e : Int) (f0 f : mFn) (g : mGn) (K : mKr) (x1 : Int32) (x2 : Int32), rg 64 65 x1 → cI n e f0 f g → (∀ (f' : mFn) (g' : mGn), cI n e f0 f' g' → K none f' g') → S [.inr 6, .inl x1, .inl x2] f g K
set_option maxRecDepth 100000 in
set_option maxHeartbeats 4000000 in
theorem sfX2_storeOther : SPX2_storeOther spX2_storeOther := by
  intro n e f0 f g K x1 x2 hx1 hI hK
  refine ⟨rfl, fun X hX => ?_⟩
  have b19 : ∀ (f : mFn) (g : mGn), cI n e f0 f g → X 19 [] [] f g := by
    intro f g  hI
    refine hX.1 1 _ rfl _ _ _ _ ?_
    exact And.intro mRt_v (hK _ _ hI)
  refine hX.1 0 _ rfl _ _ _ _ ?_
  refine And.intro (rg_in (rg_c (a := 63) (b := 63) (by decide +kernel)) (by decide +kernel)) ?_
  refine And.intro (fun c3 => ?_) (fun c3 => ?_)
  · -- 19
    exact hX.2 _ _ [] _ _ _ mW0 (b19  _ _  hI)
  · -- on
    refine And.intro (rg_in hx1 (by decide +kernel)) ?_
    exact hX.2 _ _ [] _ _ _ mW0 (b19  _ _  (gI_a0 hI (by decide +kernel)))
def SPX5_storeVectorControl (S : mSp) : Prop := ∀ (n e : Int) (f0 f : mFn) (g : mGn) (K : mKr) (x1 : Int32), cI n e f0 f g → (∀ (f' : mFn) (g' : mGn), cI n e f0 f' g' → K none f' g') → S [.inr 1, .inl x1] f g K
set_option maxRecDepth 100000 in
set_option maxHeartbeats 4000000 in
theorem sfX5_storeVectorControl : SPX5_storeVectorControl spX5_storeVectorControl := by
  intro n e f0 f g K x1  hI hK
  refine ⟨rfl, fun X hX => ?_⟩
  have b53 : ∀ (f : mFn) (g : mGn), cI n e f0 f g → X 53 [] [] f g := by
    intro f g  hI
    refine hX.1 2 _ rfl _ _ _ _ ?_
    exact And.intro mRt_v (hK _ _ hI)
  refine hX.1 0 _ rfl _ _ _ _ ?_
  refine And.intro (rg_in (rg_c (a := 85) (b := 85) (by decide +kernel)) (by decide +kernel)) ?_
  refine And.intro (fun c7 => ?_) (fun c7 => ?_)
  · -- 32
    refine hX.1 1 _ rfl _ _ _ _ ?_
    refine And.intro (fun c8 => ?_) (fun c8 => ?_)
    · -- 53
      exact hX.2 _ _ [] _ _ _ mW0 (b53  _ _  hI)
    · -- on
      refine And.intro (rg_in (rg_c (a := 85) (b := 85) (by decide +kernel)) (by decide +kernel)) ?_
      exact hX.2 _ _ [] _ _ _ mW0 (b53  _ _  (cP0 (gI_a0 hI (by decide +kernel)) (by decide +kernel)))
  · -- on
    refine And.intro (rg_in (rg_c (a := 85) (b := 85) (by decide +kernel)) (by decide +kernel)) ?_
    exact hX.2 _ _ [] _ _ _ mW0 (b53  _ _  (cP0 (gI_a0 hI (by decide +kernel)) (by decide +kernel)))
def SPX3_storeControl (S : mSp) : Prop := ∀ (n e : Int) (f0 f : mFn) (g : mGn) (K : mKr) (x1 : Int32), cI n e f0 f g → (∀ (f' : mFn) (g' : mGn), cI n e f0 f' g' → K none f' g') → S [.inr 3, .inl x1] f g K
set_option maxRecDepth 100000 in
set_option maxHeartbeats 4000000 in
theorem sfX3_storeControl : SPX3_storeControl spX3_storeControl := by
  intro n e f0 f g K x1  hI hK
  refine ⟨rfl, fun X hX => ?_⟩
  have b62 : ∀ (s1 : Int32) (f : mFn) (g : mGn), rg 0 4 s1 → cI n e f0 f g → X 62 [] [.inl s1, .inr 3] f g := by
    intro s1 f g hs1 hI
    refine hX.1 3 _ rfl _ _ _ _ ?_
    exact And.intro mRt_v (hK _ _ (cP0 hI (by decide +kernel)))
  refine hX.1 0 _ rfl _ _ _ _ ?_
  refine And.intro (rg_in (rg_c (a := 87) (b := 87) (by decide +kernel)) (by decide +kernel)) ?_
  refine And.intro (fun c7 => ?_) (fun c7 => ?_)
  · -- 33
    refine hX.1 1 _ rfl _ _ _ _ ?_
    refine And.intro (rg_in (rg_c (a := 87) (b := 87) (by decide +kernel)) (by decide +kernel)) ?_
    refine And.intro (fun c9 => ?_) (fun c9 => ?_)
    · -- 61
      refine hX.1 2 _ rfl _ _ _ _ ?_
      exact hX.2 _ _ [] _ _ _ mW0 (b62 _ _ _ (rg_w (c := 0) (d := 4) (rg_c (a := 0) (b := 0) (by decide +kernel)) (by decide +kernel)) (gI_a0 hI (by decide +kernel)))
    · -- on
      exact hX.2 _ _ [] _ _ _ mW0 (b62 _ _ _ (rg_w (c := 0) (d := 4) (rg_c (a := 4) (b := 4) (by decide +kernel)) (by decide +kernel)) (gI_a0 hI (by decide +kernel)))
  · -- on
    refine And.intro (rg_in (rg_c (a := 87) (b := 87) (by decide +kernel)) (by decide +kernel)) ?_
    exact And.intro mRt_v (hK _ _ (gI_a0 hI (by decide +kernel)))
def SPX7_storeControl (S : mSp) : Prop := ∀ (n e : Int) (f0 f : mFn) (g : mGn) (K : mKr) (x1 : Int32), cI n e f0 f g → (∀ (f' : mFn) (g' : mGn), cI n e f0 f' g' → K none f' g') → S [.inr 7, .inl x1] f g K
set_option maxRecDepth 100000 in
set_option maxHeartbeats 4000000 in
theorem sfX7_storeControl : SPX7_storeControl spX7_storeControl := by
  intro n e f0 f g K x1  hI hK
  refine ⟨rfl, fun X hX => ?_⟩
  have b106 : ∀ (a2 : Int32) (f : mFn) (g : mGn), cI n e f0 f g → X 106 [(0, .inr 7), (2, .inl a2)] [] f g := by
    intro a2 f g  hI
    refine hX.1 4 _ rfl _ _ _ _ ?_
    refine And.intro (rg_in (rg_c (a := 96) (b := 96) (by decide +kernel)) (by decide +kernel)) ?_
    exact And.intro mRt_v (hK _ _ (gI_a0 hI (by decide +kernel)))
  have b82 : ∀ (a1 : Int32) (a2 : Int32) (f : mFn) (g : mGn), cI n e f0 f g → X 82 [(0, .inr 7), (1, .inl a1), (2, .inl a2)] [] f g := by
    intro a1 a2 f g  hI
    refine hX.1 3 _ rfl _ _ _ _ ?_
    refine And.intro (fun c10 => ?_) (fun c10 => ?_)
    · -- 106
      exact hX.2 _ _ [(0, .inr 7), (2, .inl _)] _ _ _ (mWc rfl (mWc rfl mW0)) (b106 _ _ _  hI)
    · -- on
      refine And.intro (fun c11 => ?_) (fun c11 => ?_)
      · -- 106
        exact hX.2 _ _ [(0, .inr 7), (2, .inl _)] _ _ _ (mWc rfl (mWc rfl mW0)) (b106 _ _ _  hI)
      · -- on
        exact hX.2 _ _ [(0, .inr 7), (2, .inl _)] _ _ _ (mWc rfl (mWc rfl mW0)) (b106 _ _ _  (cP0 hI (by decide +kernel)))
  have b20 : ∀ (a1 : Int32) (a2 : Int32) (s0 : Int32) (f : mFn) (g : mGn), rg 0 1 s0 → cI n e f0 f g → X 20 [(0, .inr 7), (1, .inl a1), (2, .inl a2)] [.inl s0] f g := by
    intro a1 a2 s0 f g hs0 hI
    refine hX.1 2 _ rfl _ _ _ _ ?_
    refine And.intro (fun c13 => ?_) (fun c13 => ?_)
    · -- 82
      exact hX.2 _ _ [(0, .inr 7), (1, .inl _), (2, .inl _)] _ _ _ (mWc rfl (mWc rfl (mWc rfl mW0))) (b82 _ _ _ _  hI)
    · -- on
      refine And.intro (fun c14 => ?_) (fun c14 => ?_)
      · -- 82
        exact hX.2 _ _ [(0, .inr 7), (1, .inl _), (2, .inl _)] _ _ _ (mWc rfl (mWc rfl (mWc rfl mW0))) (b82 _ _ _ _  hI)
      · -- on
        refine And.intro (rg_in (rg_c (a := 84) (b := 84) (by decide +kernel)) (by decide +kernel)) ?_
        exact hX.2 _ _ [(0, .inr 7), (2, .inl _)] _ _ _ (mWc rfl (mWc rfl mW0)) (b106 _ _ _  (cP0 hI (by decide +kernel)))
  refine hX.1 0 _ rfl _ _ _ _ ?_
  refine And.intro (rg_in (rg_c (a := 96) (b := 96) (by decide +kernel)) (by decide +kernel)) ?_
  refine And.intro (fun c16 => ?_) (fun c16 => ?_)
  · -- 19
    refine hX.1 1 _ rfl _ _ _ _ ?_
    exact hX.2 _ _ [(0, .inr 7), (1, .inl _), (2, .inl _)] _ _ _ (mWc rfl (mWc rfl (mWc rfl mW0))) (b20 _ _ _ _ _ (rg_w (c := 0) (d := 1) (rg_c (a := 0) (b := 0) (by decide +kernel)) (by decide +kernel)) hI)
  · -- on
    exact hX.2 _ _ [(0, .inr 7), (1, .inl _), (2, .inl _)] _ _ _ (mWc rfl (mWc rfl (mWc rfl mW0))) (b20 _ _ _ _ _ (rg_w (c := 0) (d := 1) (rg_c (a := 1) (b := 1) (by decide +kernel)) (by decide +kernel)) hI)
def SPX4_storeState (S : mSp) : Prop := ∀ (n e : Int) (f0 f : mFn) (g : mGn) (K : mKr) (x1 : Int32), cI n e f0 f g → (∀ (f' : mFn) (g' : mGn), cI n e f0 f' g' → K none f' g') → S [.inr 5, .inl x1] f g K
set_option maxRecDepth 100000 in
set_option maxHeartbeats 4000000 in
theorem sfX4_storeState : SPX4_storeState spX4_storeState := by
  intro n e f0 f g K x1  hI hK
  refine ⟨rfl, fun X hX => ?_⟩
  refine hX.1 0 _ rfl _ _ _ _ ?_
  refine And.intro (rg_in (rg_c (a := 192) (b := 192) (by decide +kernel)) (by decide +kernel)) ?_
  refine And.intro (rg_in (rg_c (a := 192) (b := 192) (by decide +kernel)) (by decide +kernel)) ?_
  exact And.intro mRt_v (hK _ _ (gI_a0 hI (by decide +kernel)))
def SPX4_storeParts (S : mSp) : Prop := ∀ (n e : Int) (f0 f : mFn) (g : mGn) (K : mKr) (x1 : Int32), cI n e f0 f g → (∀ (f' : mFn) (g' : mGn), cI n e f0 f' g' → K none f' g') → S [.inr 5, .inl x1] f g K
set_option maxRecDepth 100000 in
set_option maxHeartbeats 4000000 in
theorem sfX4_storeParts : SPX4_storeParts spX4_storeParts := by
  intro n e f0 f g K x1  hI hK
  refine ⟨rfl, fun X hX => ?_⟩
  refine hX.1 0 _ rfl _ _ _ _ ?_
  refine And.intro (rg_in (rg_c (a := 193) (b := 193) (by decide +kernel)) (by decide +kernel)) ?_
  refine And.intro (fun c6 => ?_) (fun c6 => ?_)
  · -- 17
    refine hX.1 1 _ rfl _ _ _ _ ?_
    refine And.intro (rg_01 (rg_c (a := 0) (b := 0) (by decide +kernel)) (by decide +kernel)) ?_
    refine And.intro (rg_in (rg_c (a := 192) (b := 192) (by decide +kernel)) (by decide +kernel)) ?_
    refine And.intro (rg_in (rg_c (a := 192) (b := 192) (by decide +kernel)) (by decide +kernel)) ?_
    exact And.intro mRt_v (hK _ _ (gI_a0 (cB0 (gI_a0 hI (by decide +kernel))) (by decide +kernel)))
  · -- on
    exact And.intro mRt_v (hK _ _ (gI_a0 hI (by decide +kernel)))
def SPX4_storeData (S : mSp) : Prop := ∀ (n e : Int) (f0 f : mFn) (g : mGn) (K : mKr) (x1 : Int32), n + 1 ≤ 300000000 → cI n e f0 f g → (∀ (f' : mFn) (g' : mGn), cI (n + 1) e f0 f' g' → K none f' g') → S [.inr 5, .inl x1] f g K
set_option maxRecDepth 100000 in
set_option maxHeartbeats 4000000 in
theorem sfX4_storeData : SPX4_storeData spX4_storeData := by
  intro n e f0 f g K x1  hB hI hK
  refine ⟨rfl, fun X hX => ?_⟩
  have b21 : ∀ (f : mFn) (g : mGn), cI n e f0 f g → X 21 [] [] f g := by
    intro f g  hI
    refine hX.1 1 _ rfl _ _ _ _ ?_
    exact And.intro mRt_v (hK _ _ (cM hI (by omega) (by omega)))
  refine hX.1 0 _ rfl _ _ _ _ ?_
  refine And.intro (rg_in (rg_c (a := 193) (b := 193) (by decide +kernel)) (by decide +kernel)) ?_
  refine And.intro (fun c6 => ?_) (fun c6 => ?_)
  · -- 21
    exact hX.2 _ _ [] _ _ _ mW0 (b21  _ _  hI)
  · -- on
    refine And.intro (fun c7 => ?_) (fun c7 => ?_)
    · -- 22
      refine hX.1 2 _ rfl _ _ _ _ ?_
      refine And.intro (rg_01 (rg_c (a := 1) (b := 1) (by decide +kernel)) (by decide +kernel)) ?_
      refine And.intro (rg_in (rg_c (a := 192) (b := 192) (by decide +kernel)) (by decide +kernel)) ?_
      refine And.intro (rg_in (rg_c (a := 192) (b := 192) (by decide +kernel)) (by decide +kernel)) ?_
      exact And.intro mRt_v (hK _ _ (gI_a0 (cB1 (cP0 hI (by decide +kernel)) (by omega)) (by decide +kernel)))
    · -- on
      exact hX.2 _ _ [] _ _ _ mW0 (b21  _ _  hI)
def SPX5_store (S : mSp) : Prop := ∀ (n e : Int) (f0 f : mFn) (g : mGn) (K : mKr) (x1 : Int32) (x2 : Int32), n + 1 ≤ 300000000 → cI n e f0 f g → (∀ (f' : mFn) (g' : mGn), cI (n + 1) e f0 f' g' → K none f' g') → S [.inr 1, .inl x1, .inl x2] f g K
set_option maxRecDepth 100000 in
set_option maxHeartbeats 4000000 in
theorem sfX5_store : SPX5_store spX5_store := by
  intro n e f0 f g K x1 x2  hB hI hK
  refine ⟨rfl, fun X hX => ?_⟩
  obtain ⟨S_X2_storeControl, k_X2_storeControl, S_X2_storeOther, k_X2_storeOther, S_X5_storeVectorControl, k_X5_storeVectorControl, S_X3_storeControl, k_X3_storeControl, S_X7_storeControl, k_X7_storeControl, S_X4_storeState, k_X4_storeState, S_X4_storeParts, k_X4_storeParts, S_X4_storeData, k_X4_storeData, hX⟩ : ∃ S_X2_storeControl, SPX2_storeControl S_X2_storeControl ∧ ∃ S_X2_storeOther, SPX2_storeOther S_X2_storeOther ∧ ∃ S_X5_storeVectorControl, SPX5_storeVectorControl S_X5_storeVectorControl ∧ ∃ S_X3_storeControl, SPX3_storeControl S_X3_storeControl ∧ ∃ S_X7_storeControl, SPX7_storeControl S_X7_storeControl ∧ ∃ S_X4_storeState, SPX4_storeState S_X4_storeState ∧ ∃ S_X4_storeParts, SPX4_storeParts S_X4_storeParts ∧ ∃ S_X4_storeData, SPX4_storeData S_X4_storeData ∧ mR shC fdX5_store [(93, 0, 1, 5, S_X2_storeControl), (97, 0, 2, 5, S_X2_storeOther), (101, 0, 1, 8, S_X5_storeVectorControl), (105, 0, 1, 6, S_X3_storeControl), (107, 0, 1, 10, S_X7_storeControl), (108, 0, 1, 7, S_X4_storeState), (111, 0, 1, 7, S_X4_storeParts), (114, 0, 1, 7, S_X4_storeData)] bsX5_store (fun r f g => mRt none r ∧ K r f g) X := ⟨spX2_storeControl, sfX2_storeControl, spX2_storeOther, sfX2_storeOther, spX5_storeVectorControl, sfX5_storeVectorControl, spX3_storeControl, sfX3_storeControl, spX7_storeControl, sfX7_storeControl, spX4_storeState, sfX4_storeState, spX4_storeParts, sfX4_storeParts, spX4_storeData, sfX4_storeData, hX⟩
  have b11 : ∀ (f : mFn) (g : mGn), cI n e f0 f g → X 11 [] [] f g := by
    intro f g  hI
    refine hX.1 1 _ rfl _ _ _ _ ?_
    exact And.intro mRt_v (hK _ _ (cM hI (by omega) (by omega)))
  have b25 : ∀ (a1 : Int32) (a2 : Int32) (f : mFn) (g : mGn), rg 0 1279 a1 → cI n e f0 f g → X 25 [(0, .inr 1), (1, .inl a1), (2, .inl a2)] [] f g := by
    intro a1 a2 f g ha1 hI
    refine hX.1 3 _ rfl _ _ _ _ ?_
    refine And.intro (rg_in ha1 (by decide +kernel)) ?_
    exact And.intro mRt_v (hK _ _ (cM (gI_a0 hI (by decide +kernel)) (by omega) (by omega)))
  have b417 : ∀ (f : mFn) (g : mGn), cI (n + 1) e f0 f g → X 417 [] [] f g := by
    intro f g  hI
    refine hX.1 17 _ rfl _ _ _ _ ?_
    exact And.intro mRt_v (hK _ _ hI)
  have b268 : ∀ (a1 : Int32) (a2 : Int32) (f : mFn) (g : mGn), rg 36 197 a1 → cI n e f0 f g → X 268 [(0, .inr 1), (1, .inl a1), (2, .inl a2)] [] f g := by
    intro a1 a2 f g ha1 hI
    refine hX.1 5 _ rfl _ _ _ _ ?_
    refine And.intro (rg_in ha1 (by decide +kernel)) ?_
    exact hX.2 _ _ [] _ _ _ mW0 (b417  _ _  (cM (gI_a0 hI (by decide +kernel)) (by omega) (by omega)))
  have b328 : ∀ (a1 : Int32) (a2 : Int32) (f : mFn) (g : mGn), rg 64 65 a1 → cI n e f0 f g → X 328 [(0, .inr 1), (1, .inl a1), (2, .inl a2)] [] f g := by
    intro a1 a2 f g ha1 hI
    refine hX.1 9 _ rfl _ _ _ _ ?_
    refine k_X2_storeOther n e f0 _ _ _ _ _ (rg_w (c := 64) (d := 65) ha1 (by decide +kernel)) hI (fun f66 gf66 hI67 => ?_)
    exact hX.2 _ _ [] _ _ _ mW0 (b417  _ _  (cM hI67 (by omega) (by omega)))
  refine hX.1 0 _ rfl _ _ _ _ ?_
  refine And.intro (fun c68 => ?_) (fun c68 => ?_)
  · -- 11
    exact hX.2 _ _ [] _ _ _ mW0 (b11  _ _  hI)
  · -- on
    refine And.intro (fun c69 => ?_) (fun c69 => ?_)
    · -- 12
      refine hX.1 2 _ rfl _ _ _ _ ?_
      refine And.intro (fun c70 => ?_) (fun c70 => ?_)
      · -- 25
        exact hX.2 _ _ [(0, .inr 1), (1, .inl _), (2, .inl _)] _ _ _ (mWc rfl (mWc rfl (mWc rfl mW0))) (b25 _ _ _ _ (rg_w (c := 0) (d := 1279) (show rg 0 31 _ from (rg_lt (show rg 0 1279 _ from (rg_lt (show rg 0 2147483647 _ from (rg_ge (rg_all _) (rg_c (a := 0) (b := 0) (by decide +kernel)) (rg_nlt c68) (by decide +kernel))) (rg_c (a := 1280) (b := 1280) (by decide +kernel)) c69 (by decide +kernel))) (rg_c (a := 32) (b := 32) (by decide +kernel)) c70 (by decide +kernel))) (by decide +kernel)) hI)
      · -- on
        refine And.intro (fun c71 => ?_) (fun c71 => ?_)
        · -- 33
          refine hX.1 4 _ rfl _ _ _ _ ?_
          refine And.intro (fun c72 => ?_) (fun c72 => ?_)
          · -- 278
            refine hX.1 6 _ rfl _ _ _ _ ?_
            refine And.intro (rg_in (rg_c (a := 37) (b := 37) (by decide +kernel)) (by decide +kernel)) ?_
            refine And.intro (rg_in (rg_c (a := 37) (b := 37) (by decide +kernel)) (by decide +kernel)) ?_
            exact hX.2 _ _ [] _ _ _ mW0 (b417  _ _  (cM (gI_a0 hI (by decide +kernel)) (by omega) (by omega)))
          · -- on
            refine And.intro (fun c74 => ?_) (fun c74 => ?_)
            · -- 268
              exact hX.2 _ _ [(0, .inr 1), (1, .inl _), (2, .inl _)] _ _ _ (mWc rfl (mWc rfl (mWc rfl mW0))) (b268 _ _ _ _ (rg_w (c := 36) (d := 197) (show rg 36 36 _ from (rg_eq (rg_c (a := 36) (b := 36) (by decide +kernel)) c74)) (by decide +kernel)) hI)
            · -- on
              refine And.intro (fun c75 => ?_) (fun c75 => ?_)
              · -- 268
                exact hX.2 _ _ [(0, .inr 1), (1, .inl _), (2, .inl _)] _ _ _ (mWc rfl (mWc rfl (mWc rfl mW0))) (b268 _ _ _ _ (rg_w (c := 36) (d := 197) (show rg 37 37 _ from (rg_eq (rg_c (a := 37) (b := 37) (by decide +kernel)) c75)) (by decide +kernel)) hI)
              · -- on
                refine And.intro (fun c76 => ?_) (fun c76 => ?_)
                · -- 292
                  refine hX.1 7 _ rfl _ _ _ _ ?_
                  refine And.intro (rg_in (rg_c (a := 53) (b := 53) (by decide +kernel)) (by decide +kernel)) ?_
                  refine And.intro (rg_in (rg_c (a := 53) (b := 53) (by decide +kernel)) (by decide +kernel)) ?_
                  exact hX.2 _ _ [] _ _ _ mW0 (b417  _ _  (cM (gI_a0 hI (by decide +kernel)) (by omega) (by omega)))
                · -- on
                  refine And.intro (fun c78 => ?_) (fun c78 => ?_)
                  · -- 268
                    exact hX.2 _ _ [(0, .inr 1), (1, .inl _), (2, .inl _)] _ _ _ (mWc rfl (mWc rfl (mWc rfl mW0))) (b268 _ _ _ _ (rg_w (c := 36) (d := 197) (show rg 62 62 _ from (rg_eq (rg_c (a := 62) (b := 62) (by decide +kernel)) c78)) (by decide +kernel)) hI)
                  · -- on
                    refine And.intro (fun c79 => ?_) (fun c79 => ?_)
                    · -- 308
                      refine hX.1 8 _ rfl _ _ _ _ ?_
                      refine k_X2_storeControl n e f0 _ _ _ _  hI (fun y80 f81 gf81 hy80 hI82 => ?_)
                      exact hX.2 _ _ [] _ _ _ mW0 (b417  _ _  (cDl hI hI82 hy80 (by omega)))
                    · -- on
                      refine And.intro (fun c84 => ?_) (fun c84 => ?_)
                      · -- 328
                        exact hX.2 _ _ [(0, .inr 1), (1, .inl _), (2, .inl _)] _ _ _ (mWc rfl (mWc rfl (mWc rfl mW0))) (b328 _ _ _ _ (rg_w (c := 64) (d := 65) (show rg 64 64 _ from (rg_eq (rg_c (a := 64) (b := 64) (by decide +kernel)) c84)) (by decide +kernel)) hI)
                      · -- on
                        refine And.intro (fun c85 => ?_) (fun c85 => ?_)
                        · -- 328
                          exact hX.2 _ _ [(0, .inr 1), (1, .inl _), (2, .inl _)] _ _ _ (mWc rfl (mWc rfl (mWc rfl mW0))) (b328 _ _ _ _ (rg_w (c := 64) (d := 65) (show rg 65 65 _ from (rg_eq (rg_c (a := 65) (b := 65) (by decide +kernel)) c85)) (by decide +kernel)) hI)
                        · -- on
                          refine And.intro (fun c86 => ?_) (fun c86 => ?_)
                          · -- 268
                            exact hX.2 _ _ [(0, .inr 1), (1, .inl _), (2, .inl _)] _ _ _ (mWc rfl (mWc rfl (mWc rfl mW0))) (b268 _ _ _ _ (rg_w (c := 36) (d := 197) (show rg 68 68 _ from (rg_eq (rg_c (a := 68) (b := 68) (by decide +kernel)) c86)) (by decide +kernel)) hI)
                          · -- on
                            refine And.intro (fun c87 => ?_) (fun c87 => ?_)
                            · -- 268
                              exact hX.2 _ _ [(0, .inr 1), (1, .inl _), (2, .inl _)] _ _ _ (mWc rfl (mWc rfl (mWc rfl mW0))) (b268 _ _ _ _ (rg_w (c := 36) (d := 197) (show rg 69 69 _ from (rg_eq (rg_c (a := 69) (b := 69) (by decide +kernel)) c87)) (by decide +kernel)) hI)
                            · -- on
                              refine And.intro (fun c88 => ?_) (fun c88 => ?_)
                              · -- 268
                                exact hX.2 _ _ [(0, .inr 1), (1, .inl _), (2, .inl _)] _ _ _ (mWc rfl (mWc rfl (mWc rfl mW0))) (b268 _ _ _ _ (rg_w (c := 36) (d := 197) (show rg 70 70 _ from (rg_eq (rg_c (a := 70) (b := 70) (by decide +kernel)) c88)) (by decide +kernel)) hI)
                              · -- on
                                refine And.intro (fun c89 => ?_) (fun c89 => ?_)
                                · -- 268
                                  exact hX.2 _ _ [(0, .inr 1), (1, .inl _), (2, .inl _)] _ _ _ (mWc rfl (mWc rfl (mWc rfl mW0))) (b268 _ _ _ _ (rg_w (c := 36) (d := 197) (show rg 71 71 _ from (rg_eq (rg_c (a := 71) (b := 71) (by decide +kernel)) c89)) (by decide +kernel)) hI)
                                · -- on
                                  refine And.intro (fun c90 => ?_) (fun c90 => ?_)
                                  · -- 268
                                    exact hX.2 _ _ [(0, .inr 1), (1, .inl _), (2, .inl _)] _ _ _ (mWc rfl (mWc rfl (mWc rfl mW0))) (b268 _ _ _ _ (rg_w (c := 36) (d := 197) (show rg 74 74 _ from (rg_eq (rg_c (a := 74) (b := 74) (by decide +kernel)) c90)) (by decide +kernel)) hI)
                                  · -- on
                                    refine And.intro (fun c91 => ?_) (fun c91 => ?_)
                                    · -- 268
                                      exact hX.2 _ _ [(0, .inr 1), (1, .inl _), (2, .inl _)] _ _ _ (mWc rfl (mWc rfl (mWc rfl mW0))) (b268 _ _ _ _ (rg_w (c := 36) (d := 197) (show rg 75 75 _ from (rg_eq (rg_c (a := 75) (b := 75) (by decide +kernel)) c91)) (by decide +kernel)) hI)
                                    · -- on
                                      refine And.intro (fun c92 => ?_) (fun c92 => ?_)
                                      · -- 340
                                        refine hX.1 10 _ rfl _ _ _ _ ?_
                                        refine And.intro (rg_in (rg_c (a := 84) (b := 84) (by decide +kernel)) (by decide +kernel)) ?_
                                        refine And.intro (rg_in (rg_c (a := 84) (b := 84) (by decide +kernel)) (by decide +kernel)) ?_
                                        exact hX.2 _ _ [] _ _ _ mW0 (b417  _ _  (cM (gI_a0 hI (by decide +kernel)) (by omega) (by omega)))
                                      · -- on
                                        refine And.intro (fun c94 => ?_) (fun c94 => ?_)
                                        · -- 354
                                          refine hX.1 11 _ rfl _ _ _ _ ?_
                                          refine k_X5_storeVectorControl n e f0 _ _ _ _  hI (fun f96 gf96 hI97 => ?_)
                                          exact hX.2 _ _ [] _ _ _ mW0 (b417  _ _  (cM hI97 (by omega) (by omega)))
                                        · -- on
                                          refine And.intro (fun c98 => ?_) (fun c98 => ?_)
                                          · -- 362
                                            refine hX.1 12 _ rfl _ _ _ _ ?_
                                            refine k_X3_storeControl n e f0 _ _ _ _  hI (fun f100 gf100 hI101 => ?_)
                                            exact hX.2 _ _ [] _ _ _ mW0 (b417  _ _  (cM hI101 (by omega) (by omega)))
                                          · -- on
                                            refine And.intro (fun c102 => ?_) (fun c102 => ?_)
                                            · -- 268
                                              exact hX.2 _ _ [(0, .inr 1), (1, .inl _), (2, .inl _)] _ _ _ (mWc rfl (mWc rfl (mWc rfl mW0))) (b268 _ _ _ _ (rg_w (c := 36) (d := 197) (show rg 93 93 _ from (rg_eq (rg_c (a := 93) (b := 93) (by decide +kernel)) c102)) (by decide +kernel)) hI)
                                            · -- on
                                              refine And.intro (fun c103 => ?_) (fun c103 => ?_)
                                              · -- 268
                                                exact hX.2 _ _ [(0, .inr 1), (1, .inl _), (2, .inl _)] _ _ _ (mWc rfl (mWc rfl (mWc rfl mW0))) (b268 _ _ _ _ (rg_w (c := 36) (d := 197) (show rg 94 94 _ from (rg_eq (rg_c (a := 94) (b := 94) (by decide +kernel)) c103)) (by decide +kernel)) hI)
                                              · -- on
                                                refine And.intro (fun c104 => ?_) (fun c104 => ?_)
                                                · -- 268
                                                  exact hX.2 _ _ [(0, .inr 1), (1, .inl _), (2, .inl _)] _ _ _ (mWc rfl (mWc rfl (mWc rfl mW0))) (b268 _ _ _ _ (rg_w (c := 36) (d := 197) (show rg 95 95 _ from (rg_eq (rg_c (a := 95) (b := 95) (by decide +kernel)) c104)) (by decide +kernel)) hI)
                                                · -- on
                                                  refine And.intro (fun c105 => ?_) (fun c105 => ?_)
                                                  · -- 373
                                                    refine hX.1 13 _ rfl _ _ _ _ ?_
                                                    refine k_X7_storeControl n e f0 _ _ _ _  hI (fun f107 gf107 hI108 => ?_)
                                                    exact hX.2 _ _ [] _ _ _ mW0 (b417  _ _  (cM hI108 (by omega) (by omega)))
                                                  · -- on
                                                    refine And.intro (fun c109 => ?_) (fun c109 => ?_)
                                                    · -- 268
                                                      exact hX.2 _ _ [(0, .inr 1), (1, .inl _), (2, .inl _)] _ _ _ (mWc rfl (mWc rfl (mWc rfl mW0))) (b268 _ _ _ _ (rg_w (c := 36) (d := 197) (show rg 110 110 _ from (rg_eq (rg_c (a := 110) (b := 110) (by decide +kernel)) c109)) (by decide +kernel)) hI)
                                                    · -- on
                                                      refine And.intro (fun c110 => ?_) (fun c110 => ?_)
                                                      · -- 384
                                                        refine hX.1 14 _ rfl _ _ _ _ ?_
                                                        refine k_X4_storeState n e f0 _ _ _ _  hI (fun f112 gf112 hI113 => ?_)
                                                        exact hX.2 _ _ [] _ _ _ mW0 (b417  _ _  (cM hI113 (by omega) (by omega)))
                                                      · -- on
                                                        refine And.intro (fun c114 => ?_) (fun c114 => ?_)
                                                        · -- 395
                                                          refine hX.1 15 _ rfl _ _ _ _ ?_
                                                          refine k_X4_storeParts n e f0 _ _ _ _  hI (fun f116 gf116 hI117 => ?_)
                                                          exact hX.2 _ _ [] _ _ _ mW0 (b417  _ _  (cM hI117 (by omega) (by omega)))
                                                        · -- on
                                                          refine And.intro (fun c118 => ?_) (fun c118 => ?_)
                                                          · -- 268
                                                            exact hX.2 _ _ [(0, .inr 1), (1, .inl _), (2, .inl _)] _ _ _ (mWc rfl (mWc rfl (mWc rfl mW0))) (b268 _ _ _ _ (rg_w (c := 36) (d := 197) (show rg 194 194 _ from (rg_eq (rg_c (a := 194) (b := 194) (by decide +kernel)) c118)) (by decide +kernel)) hI)
                                                          · -- on
                                                            refine And.intro (fun c119 => ?_) (fun c119 => ?_)
                                                            · -- 268
                                                              exact hX.2 _ _ [(0, .inr 1), (1, .inl _), (2, .inl _)] _ _ _ (mWc rfl (mWc rfl (mWc rfl mW0))) (b268 _ _ _ _ (rg_w (c := 36) (d := 197) (show rg 196 196 _ from (rg_eq (rg_c (a := 196) (b := 196) (by decide +kernel)) c119)) (by decide +kernel)) hI)
                                                            · -- on
                                                              refine And.intro (fun c120 => ?_) (fun c120 => ?_)
                                                              · -- 268
                                                                exact hX.2 _ _ [(0, .inr 1), (1, .inl _), (2, .inl _)] _ _ _ (mWc rfl (mWc rfl (mWc rfl mW0))) (b268 _ _ _ _ (rg_w (c := 36) (d := 197) (show rg 197 197 _ from (rg_eq (rg_c (a := 197) (b := 197) (by decide +kernel)) c120)) (by decide +kernel)) hI)
                                                              · -- on
                                                                refine And.intro (fun c121 => ?_) (fun c121 => ?_)
                                                                · -- 406
                                                                  refine hX.1 16 _ rfl _ _ _ _ ?_
                                                                  refine k_X4_storeData n e f0 _ _ _ _  (by omega) hI (fun f123 gf123 hI124 => ?_)
                                                                  exact hX.2 _ _ [] _ _ _ mW0 (b417  _ _  hI124)
                                                                · -- on
                                                                  exact hX.2 _ _ [] _ _ _ mW0 (b417  _ _  (cM hI (by omega) (by omega)))
        · -- on
          exact hX.2 _ _ [(0, .inr 1), (1, .inl _), (2, .inl _)] _ _ _ (mWc rfl (mWc rfl (mWc rfl mW0))) (b25 _ _ _ _ (rg_w (c := 0) (d := 1279) (show rg 256 1279 _ from (rg_ge (show rg 32 1279 _ from (rg_ge (show rg 0 1279 _ from (rg_lt (show rg 0 2147483647 _ from (rg_ge (rg_all _) (rg_c (a := 0) (b := 0) (by decide +kernel)) (rg_nlt c68) (by decide +kernel))) (rg_c (a := 1280) (b := 1280) (by decide +kernel)) c69 (by decide +kernel))) (rg_c (a := 32) (b := 32) (by decide +kernel)) (rg_nlt c70) (by decide +kernel))) (rg_c (a := 256) (b := 256) (by decide +kernel)) (rg_nlt c71) (by decide +kernel))) (by decide +kernel)) hI)
    · -- on
      exact hX.2 _ _ [] _ _ _ mW0 (b11  _ _  hI)
def SPX4_take (S : mSp) : Prop := ∀ (n e : Int) (f0 f : mFn) (g : mGn) (K : mKr), cI n e f0 f g → (∀ (y : Int32) (f' : mFn) (g' : mGn), cI n e f0 f' g' → K (some (.inl y)) f' g') → S [.inr 5] f g K
set_option maxRecDepth 100000 in
set_option maxHeartbeats 4000000 in
theorem sfX4_take : SPX4_take spX4_take := by
  intro n e f0 f g K   hI hK
  refine ⟨rfl, fun X hX => ?_⟩
  have b66 : ∀ (a1 : Int32) (f : mFn) (g : mGn), cI n e f0 f g → X 66 [(1, .inl a1)] [] f g := by
    intro a1 f g  hI
    refine hX.1 2 _ rfl _ _ _ _ ?_
    exact And.intro mRt_i (hK _ _ _ hI)
  refine hX.1 0 _ rfl _ _ _ _ ?_
  refine And.intro (rg_in (rg_c (a := 192) (b := 192) (by decide +kernel)) (by decide +kernel)) ?_
  refine And.intro (rg_in (rg_c (a := 192) (b := 192) (by decide +kernel)) (by decide +kernel)) ?_
  refine And.intro (fun c8 => ?_) (fun c8 => ?_)
  · -- 22
    refine hX.1 1 _ rfl _ _ _ _ ?_
    refine And.intro (fun c11 => ?_) (fun c11 => ?_)
    · -- 66
      exact hX.2 _ _ [(1, .inl _)] _ _ _ (mWc rfl mW0) (b66 _ _ _  (cP0 (cP0 (gI_a0 hI (by decide +kernel)) (by decide +kernel)) (by decide +kernel)))
    · -- on
      refine And.intro (rg_in (rg_c (a := 192) (b := 192) (by decide +kernel)) (by decide +kernel)) ?_
      refine And.intro (rg_in (rg_c (a := 192) (b := 192) (by decide +kernel)) (by decide +kernel)) ?_
      exact hX.2 _ _ [(1, .inl _)] _ _ _ (mWc rfl mW0) (b66 _ _ _  (gI_a0 (cP0 (cP0 (gI_a0 hI (by decide +kernel)) (by decide +kernel)) (by decide +kernel)) (by decide +kernel)))
  · -- on
    exact And.intro mRt_i (hK _ _ _ (gI_a0 hI (by decide +kernel)))
def SPX5_load (S : mSp) : Prop := ∀ (n e : Int) (f0 f : mFn) (g : mGn) (K : mKr) (x1 : Int32), cI n e f0 f g → (∀ (y : Int32) (f' : mFn) (g' : mGn), cI n e f0 f' g' → K (some (.inl y)) f' g') → S [.inr 1, .inl x1] f g K
set_option maxRecDepth 100000 in
set_option maxHeartbeats 4000000 in
theorem sfX5_load : SPX5_load spX5_load := by
  intro n e f0 f g K x1  hI hK
  refine ⟨rfl, fun X hX => ?_⟩
  obtain ⟨S_X4_take, k_X4_take, hX⟩ : ∃ S_X4_take, SPX4_take S_X4_take ∧ mR shC fdX5_load [(83, 0, 0, 7, S_X4_take)] bsX5_load (fun r f g => mRt (some .int) r ∧ K r f g) X := ⟨spX4_take, sfX4_take, hX⟩
  have b11 : ∀ (f : mFn) (g : mGn), cI n e f0 f g → X 11 [] [] f g := by
    intro f g  hI
    refine hX.1 1 _ rfl _ _ _ _ ?_
    exact And.intro mRt_i (hK _ _ _ hI)
  refine hX.1 0 _ rfl _ _ _ _ ?_
  refine And.intro (fun c8 => ?_) (fun c8 => ?_)
  · -- 11
    exact hX.2 _ _ [] _ _ _ mW0 (b11  _ _  hI)
  · -- on
    refine And.intro (fun c9 => ?_) (fun c9 => ?_)
    · -- 13
      refine hX.1 2 _ rfl _ _ _ _ ?_
      refine And.intro (fun c10 => ?_) (fun c10 => ?_)
      · -- 28
        refine hX.1 3 _ rfl _ _ _ _ ?_
        refine And.intro (fun c11 => ?_) (fun c11 => ?_)
        · -- 61
          refine hX.1 4 _ rfl _ _ _ _ ?_
          refine And.intro (rg_in (show rg 0 1279 _ from (rg_lt (show rg 0 2147483647 _ from (rg_ge (rg_all _) (rg_c (a := 0) (b := 0) (by decide +kernel)) (rg_nlt c8) (by decide +kernel))) (rg_c (a := 1280) (b := 1280) (by decide +kernel)) c9 (by decide +kernel))) (by decide +kernel)) ?_
          exact And.intro mRt_i (hK _ _ _ hI)
        · -- on
          refine And.intro (rg_in (rg_c (a := 36) (b := 36) (by decide +kernel)) (by decide +kernel)) ?_
          refine And.intro (rg_in (rg_c (a := 37) (b := 37) (by decide +kernel)) (by decide +kernel)) ?_
          exact And.intro mRt_i (hK _ _ _ hI)
      · -- on
        refine k_X4_take n e f0 _ _ _  hI (fun y12 f13 gf13 hI14 => ?_)
        exact And.intro mRt_i (hK _ _ _ hI14)
    · -- on
      exact hX.2 _ _ [] _ _ _ mW0 (b11  _ _  hI)
