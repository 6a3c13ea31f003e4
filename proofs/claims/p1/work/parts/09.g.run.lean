/-! run and pass from a fresh object, both sides -/
theorem onC {f : mFn} {g : mGn} (h : eOk e0 dfC s0C f g) : f 2 = 1 := Sum.inl.inj (eG_1 (h.2.1 0 2 (1, 1) rfl))
theorem inv0C {f : mFn} {g : mGn} (h : eOk e0 dfC s0C f g) : InvC 0 f g := Or.inl ⟨rfl, Nat.zero_le _, rfl, h⟩
theorem onM {f : mFn} {g : mGn} (h : eOk e0 dfM s0M f g) : f 9 = 1 := Sum.inl.inj (eG_1 (h.2.1 0 9 (1, 1) rfl))
theorem inv0M {f : mFn} {g : mGn} (h : eOk e0 dfM s0M f g) : InvM 0 f g := Or.inl ⟨rfl, Nat.zero_le _, rfl, h⟩
theorem nI_ge0 {n : Nat} (h1 : 1 ≤ n) (h2 : n < 2 ^ 31) : ¬ nI n < 1 := nI_nlt (b := 1) h1 h2
theorem rgNat {a b : Nat} {x : Int32} (h : rg a b x) : ∃ n : Nat, x = nI n ∧ a ≤ n ∧ n ≤ b ∧ n < 2 ^ 31 := by
  obtain ⟨h1, h2⟩ := h
  have h0 : ¬ x < 0 := fun z => by
    have := Int32.lt_iff_toInt_lt.mp z
    have e : (0 : Int32).toInt = 0 := rfl
    omega
  obtain ⟨n, hn, rfl⟩ := nI_of h0
  rw [nI_toInt hn] at h1 h2
  exact ⟨n, rfl, by omega, by omega, hn⟩
set_option maxRecDepth 100000 in
set_option maxHeartbeats 4000000 in
theorem xrunC {n : Nat} (h1 : 1 ≤ n) (h2 : n ≤ 5000) {f : mFn} {g : mGn} (h0 : eOk e0 dfC s0C f g) {K : mKr} (hK : ∀ f' g', K (some (.inl (nI (sumD n)))) f' g') : spX8_run [.inr 0, .inl (nI n)] f g K := by
  have hp := onC h0
  refine ⟨rfl, fun X hX => ?_⟩
  obtain ⟨S1, k1, hX⟩ : ∃ S1, SPInC S1 ∧ mR shC fdX8_run [(33, 0, 0, 11, S1)] bsX8_run (fun r f g => mRt (some .int) r ∧ K r f g) X := ⟨spX8_oneStep, stepC, hX⟩
  have r35 : ∀ (t i : Nat), i ≤ n → n < i + t → ∀ (f : mFn) (g : mGn), InvC i f g → X 35 [(0, .inr 0), (1, .inl (nI n)), (2, .inl (nI (sumD i))), (3, .inl (nI i))] [] f g := by
    intro t
    induction t with
    | zero => intro i h3 h4; omega
    | succ t ih =>
      intro i h3 h4 f g hI
      refine hX.1 3 _ rfl _ _ _ _ ?_
      refine And.intro (fun c8 => ?_) (fun c8 => ?_)
      · have e : i = n := by
          rcases Nat.lt_or_ge i n with z | z
          · exact absurd (show nI n ≤ nI i from c8) (nI_ge z (by omega))
          · omega
        subst e
        refine hX.1 4 _ rfl _ _ _ _ ?_
        exact And.intro mRt_i (hK _ _)
      · have h5 : i < n := by
          rcases Nat.lt_or_ge i n with z | z
          · exact z
          · exact absurd (nI_le z (by omega)) (show ¬ nI n ≤ nI i from c8)
        have hb := sumD_b i
        refine k1 i _ _ _ hI (by omega) (fun f1 g1 hI1 => ?_)
        have h9 := ih (i + 1) (by omega) (by omega) f1 g1 hI1
        rw [show nI (sumD (i + 1)) = nI (sumD i) + nI (D9 i) from (nI_add _ _).symm, show nI (i + 1) = nI i + 1 from (nI_1 i).symm] at h9
        exact hX.2 _ _ [(0, .inr 0), (1, .inl _), (2, .inl _), (3, .inl _)] _ _ _ (mWc rfl (mWc rfl (mWc rfl (mWc rfl mW0)))) h9
  have h9 := r35 (n + 1) 0 (Nat.zero_le _) (by omega) f g (inv0C h0)
  rw [show sumD 0 = 0 from rfl, nI_0] at h9
  refine hX.1 0 _ rfl _ _ _ _ ?_
  refine And.intro (fun c1 => absurd (show nI n < 1 from c1) (nI_ge0 h1 (by omega))) (fun c1 => ?_)
  refine And.intro (fun c2 => ?_) (fun c2 => absurd (show nI n ≤ nI 5000 from nI_le h2 (by decide)) c2)
  refine hX.1 1 _ rfl _ _ _ _ ?_
  refine And.intro (fun c3 => ?_) (fun c3 => absurd (hp.symm.trans (show f 2 = 0 from c3)) (by decide))
  refine hX.1 2 _ rfl _ _ _ _ ?_
  exact hX.2 _ _ [(0, .inr 0), (1, .inl _), (2, .inl _), (3, .inl _)] _ _ _ (mWc rfl (mWc rfl (mWc rfl (mWc rfl mW0)))) h9
/-- what pass answers -/
def aPass (n : Nat) (y : Int32) : Prop := ∃ k, y = nI (sumD k) ∧ n ≤ sumD k ∧ ∀ j, j < k → sumD j < n
theorem aPass_u {n : Nat} {y z : Int32} (h1 : aPass n y) (h2 : aPass n z) : y = z := by
  obtain ⟨k, rfl, h3, h4⟩ := h1
  obtain ⟨k', rfl, h5, h6⟩ := h2
  rw [sumD_u h3 h4 h5 h6]
set_option maxRecDepth 100000 in
set_option maxHeartbeats 4000000 in
theorem xpassC {n : Nat} (h1 : 1 ≤ n) (h2 : n ≤ 200000) {f : mFn} {g : mGn} (h0 : eOk e0 dfC s0C f g) {K : mKr} (hK : ∀ y f' g', aPass n y → K (some (.inl y)) f' g') : spX8_pass [.inr 0, .inl (nI n)] f g K := by
  have hp := onC h0
  refine ⟨rfl, fun X hX => ?_⟩
  obtain ⟨S1, k1, hX⟩ : ∃ S1, SPInC S1 ∧ mR shC fdX8_pass [(33, 0, 0, 11, S1)] bsX8_pass (fun r f g => mRt (some .int) r ∧ K r f g) X := ⟨spX8_oneStep, stepC, hX⟩
  have b57 : ∀ (i : Nat), n ≤ sumD i → (∀ j, j < i → sumD j < n) → ∀ (f : mFn) (g : mGn), X 57 [(2, .inl (nI (sumD i)))] [] f g := by
    intro i h3 h4 f g
    refine hX.1 4 _ rfl _ _ _ _ ?_
    exact And.intro mRt_i (hK _ _ _ ⟨i, rfl, h3, h4⟩)
  have r34 : ∀ (t i : Nat), i ≤ n → n < i + t → (∀ j, j < i → sumD j < n) → ∀ (f : mFn) (g : mGn), InvC i f g → X 34 [(0, .inr 0), (1, .inl (nI n)), (2, .inl (nI (sumD i))), (3, .inl (nI i))] [] f g := by
    intro t
    induction t with
    | zero => intro i h3 h4; omega
    | succ t ih =>
      intro i h3 h4 h5 f g hI
      have hb := sumD_b i
      refine hX.1 3 _ rfl _ _ _ _ ?_
      refine And.intro (fun c9 => ?_) (fun c9 => ?_)
      · have e : i = n := by
          rcases Nat.lt_or_ge i n with z | z
          · exact absurd (show nI n ≤ nI i from c9) (nI_ge z (by omega))
          · omega
        exact hX.2 _ _ [(2, .inl _)] _ _ _ (mWc rfl mW0) (b57 i (by omega) h5 f g)
      · refine And.intro (fun c10 => ?_) (fun c10 => ?_)
        · have h6 : n ≤ sumD i := by
            rcases Nat.lt_or_ge (sumD i) n with z | z
            · exact absurd (show nI n ≤ nI (sumD i) from c10) (nI_ge z (by omega))
            · exact z
          exact hX.2 _ _ [(2, .inl _)] _ _ _ (mWc rfl mW0) (b57 i h6 h5 f g)
        · have h6 : sumD i < n := by
            rcases Nat.lt_or_ge (sumD i) n with z | z
            · exact z
            · exact absurd (nI_le z (by omega)) (show ¬ nI n ≤ nI (sumD i) from c10)
          have h7 : i < n := by omega
          refine k1 i _ _ _ hI (by omega) (fun f1 g1 hI1 => ?_)
          have h9 := ih (i + 1) (by omega) (by omega) (fun j hj => by
            rcases (show j < i ∨ j = i by omega) with z | rfl
            · exact h5 j z
            · exact h6) f1 g1 hI1
          rw [show nI (sumD (i + 1)) = nI (sumD i) + nI (D9 i) from (nI_add _ _).symm, show nI (i + 1) = nI i + 1 from (nI_1 i).symm] at h9
          exact hX.2 _ _ [(0, .inr 0), (1, .inl _), (2, .inl _), (3, .inl _)] _ _ _ (mWc rfl (mWc rfl (mWc rfl (mWc rfl mW0)))) h9
  have h9 := r34 (n + 1) 0 (Nat.zero_le _) (by omega) (fun j hj => absurd hj (Nat.not_lt_zero j)) f g (inv0C h0)
  rw [show sumD 0 = 0 from rfl, nI_0] at h9
  refine hX.1 0 _ rfl _ _ _ _ ?_
  refine And.intro (fun c1 => absurd (show nI n < 1 from c1) (nI_ge0 h1 (by omega))) (fun c1 => ?_)
  refine And.intro (fun c2 => ?_) (fun c2 => absurd (show nI n ≤ nI 200000 from nI_le h2 (by decide)) c2)
  refine hX.1 1 _ rfl _ _ _ _ ?_
  refine And.intro (fun c3 => ?_) (fun c3 => absurd (hp.symm.trans (show f 2 = 0 from c3)) (by decide))
  refine hX.1 2 _ rfl _ _ _ _ ?_
  exact hX.2 _ _ [(0, .inr 0), (1, .inl _), (2, .inl _), (3, .inl _)] _ _ _ (mWc rfl (mWc rfl (mWc rfl (mWc rfl mW0)))) h9
def SPrtM (S : mSp) : Prop := ∀ (f : mFn) (g : mGn) (K : mKr), eOk e0 dfM s0M f g → (∀ f' g', eOk e0 dfM s0M f' g' → K (some (.inl 1)) f' g') → S [.inr 0, .inl 1] f g K
set_option maxRecDepth 1000000 in
theorem rM_right : eEv e0 e0 shM dfM pgM 1400 14 49 [(0, 0), (1, 1)] s0M = some (some (1, 1), s0M) := eEqB_ok (by decide +kernel)
theorem rightM : SPrtM spX9_right := by
  intro f g K hs hK
  refine eEv_ok e0_b prM 14 49 _ _ _ _ rM_right [.inr 0, .inl 1] f g K ⟨eG_r 0, eG_c 1, trivial⟩ hs (fun v f' g' hv hs' => ?_)
  cases v with
  | none => exact False.elim hv
  | some v =>
    cases eG_1 hv
    exact hK f' g' hs'
set_option maxRecDepth 100000 in
set_option maxHeartbeats 4000000 in
theorem xrunM {n : Nat} (h1 : 1 ≤ n) (h2 : n ≤ 5000) {f : mFn} {g : mGn} (h0 : eOk e0 dfM s0M f g) {K : mKr} (hK : ∀ f' g', InvM n f' g' → K (some (.inl (nI (sumD n)))) f' g') : spX9_run [.inr 0, .inl (nI n)] f g K := by
  refine ⟨rfl, fun X hX => ?_⟩
  obtain ⟨S0, k0, S1, k1, hX⟩ : ∃ S0, SPrtM S0 ∧ ∃ S1, SPInM S1 ∧ mR shM fdX9_run [(359, 0, 1, 12, S0), (356, 0, 0, 12, S1)] bsX9_run (fun r f g => mRt (some .int) r ∧ K r f g) X := ⟨spX9_right, rightM, spX9_stepped, stepM, hX⟩
  have r37 : ∀ (t i : Nat), i ≤ n → n < i + t → ∀ (f : mFn) (g : mGn), InvM i f g → X 37 [(0, .inr 0), (1, .inl (nI n)), (2, .inl (nI (sumD i))), (3, .inl (nI i))] [] f g := by
    intro t
    induction t with
    | zero => intro i h3 h4; omega
    | succ t ih =>
      intro i h3 h4 f g hI
      refine hX.1 5 _ rfl _ _ _ _ ?_
      refine And.intro (fun c8 => ?_) (fun c8 => ?_)
      · have e : i = n := by
          rcases Nat.lt_or_ge i n with z | z
          · exact absurd (show nI n ≤ nI i from c8) (nI_ge z (by omega))
          · omega
        subst e
        refine hX.1 6 _ rfl _ _ _ _ ?_
        exact And.intro mRt_i (hK _ _ hI)
      · have h5 : i < n := by
          rcases Nat.lt_or_ge i n with z | z
          · exact z
          · exact absurd (nI_le z (by omega)) (show ¬ nI n ≤ nI i from c8)
        have hb := sumD_b i
        refine k1 i _ _ _ hI (by omega) (fun f1 g1 hI1 => ?_)
        have h9 := ih (i + 1) (by omega) (by omega) f1 g1 hI1
        rw [show nI (sumD (i + 1)) = nI (sumD i) + nI (D9 i) from (nI_add _ _).symm, show nI (i + 1) = nI i + 1 from (nI_1 i).symm] at h9
        exact hX.2 _ _ [(0, .inr 0), (1, .inl _), (2, .inl _), (3, .inl _)] _ _ _ (mWc rfl (mWc rfl (mWc rfl (mWc rfl mW0)))) h9
  refine hX.1 0 _ rfl _ _ _ _ ?_
  refine And.intro (fun c1 => absurd (show nI n < 1 from c1) (nI_ge0 h1 (by omega))) (fun c1 => ?_)
  refine And.intro (fun c2 => absurd (show nI 5000 < nI n from c2) (nI_nlt h2 (by decide))) (fun c2 => ?_)
  refine hX.1 2 _ rfl _ _ _ _ ?_
  refine k0 _ _ _ h0 (fun f1 g1 h01 => ?_)
  have h9 := r37 (n + 1) 0 (Nat.zero_le _) (by omega) f1 g1 (inv0M h01)
  rw [show sumD 0 = 0 from rfl, nI_0] at h9
  refine And.intro (fun c3 => absurd (show (1 : Int32) = 0 from c3) (by decide)) (fun c3 => ?_)
  refine And.intro (fun c4 => ?_) (fun c4 => absurd ((onM h01).symm.trans (show f1 9 = 0 from c4)) (by decide))
  refine hX.1 4 _ rfl _ _ _ _ ?_
  exact hX.2 _ _ [(0, .inr 0), (1, .inl _), (2, .inl _), (3, .inl _)] _ _ _ (mWc rfl (mWc rfl (mWc rfl (mWc rfl mW0)))) h9
set_option maxRecDepth 100000 in
set_option maxHeartbeats 4000000 in
theorem xpassM {n : Nat} (h1 : 1 ≤ n) (h2 : n ≤ 200000) {f : mFn} {g : mGn} (h0 : eOk e0 dfM s0M f g) {K : mKr} (hK : ∀ y k f' g', aPass n y → InvM k f' g' → K (some (.inl y)) f' g') : spX9_pass [.inr 0, .inl (nI n)] f g K := by
  refine ⟨rfl, fun X hX => ?_⟩
  obtain ⟨S0, k0, S1, k1, hX⟩ : ∃ S0, SPrtM S0 ∧ ∃ S1, SPInM S1 ∧ mR shM fdX9_pass [(359, 0, 1, 12, S0), (356, 0, 0, 12, S1)] bsX9_pass (fun r f g => mRt (some .int) r ∧ K r f g) X := ⟨spX9_right, rightM, spX9_stepped, stepM, hX⟩
  have r35 : ∀ (t i : Nat), n < i + t → (∀ j, j < i → sumD j < n) → ∀ (f : mFn) (g : mGn), InvM i f g → X 35 [(0, .inr 0), (1, .inl (nI n)), (2, .inl (nI (sumD i)))] [] f g := by
    intro t
    induction t with
    | zero =>
      intro i h4 h5
      have := h5 n (by omega)
      have := (sumD_b n).1
      omega
    | succ t ih =>
      intro i h4 h5 f g hI
      have hb := sumD_b i
      have hin : i ≤ n := by
        rcases Nat.lt_or_ge n i with z | z
        · have := h5 n z
          have := (sumD_b n).1
          omega
        · exact z
      refine hX.1 5 _ rfl _ _ _ _ ?_
      refine And.intro (fun c10 => ?_) (fun c10 => ?_)
      · have h6 : n ≤ sumD i := by
          rcases Nat.lt_or_ge (sumD i) n with z | z
          · exact absurd (show nI n ≤ nI (sumD i) from c10) (nI_ge z (by omega))
          · exact z
        refine hX.1 6 _ rfl _ _ _ _ ?_
        exact And.intro mRt_i (hK _ i _ _ ⟨i, rfl, h6, h5⟩ hI)
      · have h6 : sumD i < n := by
          rcases Nat.lt_or_ge (sumD i) n with z | z
          · exact z
          · exact absurd (nI_le z (by omega)) (show ¬ nI n ≤ nI (sumD i) from c10)
        refine k1 i _ _ _ hI (by omega) (fun f1 g1 hI1 => ?_)
        have h9 := ih (i + 1) (by omega) (fun j hj => by
          rcases (show j < i ∨ j = i by omega) with z | rfl
          · exact h5 j z
          · exact h6) f1 g1 hI1
        rw [show nI (sumD (i + 1)) = nI (sumD i) + nI (D9 i) from (nI_add _ _).symm] at h9
        exact hX.2 _ _ [(0, .inr 0), (1, .inl _), (2, .inl _)] _ _ _ (mWc rfl (mWc rfl (mWc rfl mW0))) h9
  refine hX.1 0 _ rfl _ _ _ _ ?_
  refine And.intro (fun c1 => absurd (show nI n < 1 from c1) (nI_ge0 h1 (by omega))) (fun c1 => ?_)
  refine And.intro (fun c2 => absurd (show nI 200000 < nI n from c2) (nI_nlt h2 (by decide))) (fun c2 => ?_)
  refine hX.1 2 _ rfl _ _ _ _ ?_
  refine k0 _ _ _ h0 (fun f1 g1 h01 => ?_)
  have h9 := r35 (n + 1) 0 (by omega) (fun j hj => absurd hj (Nat.not_lt_zero j)) f1 g1 (inv0M h01)
  rw [show sumD 0 = 0 from rfl, nI_0] at h9
  refine And.intro (fun c3 => absurd (show (1 : Int32) = 0 from c3) (by decide)) (fun c3 => ?_)
  refine And.intro (fun c4 => ?_) (fun c4 => absurd ((onM h01).symm.trans (show f1 9 = 0 from c4)) (by decide))
  refine hX.1 4 _ rfl _ _ _ _ ?_
  exact hX.2 _ _ [(0, .inr 0), (1, .inl _), (2, .inl _)] _ _ _ (mWc rfl (mWc rfl (mWc rfl mW0))) h9
/-- the reference's 'thrown' is 0 all along -/
theorem thr0 {i : Nat} {f : mFn} {g : mGn} (h : InvM i f g) : f 0 = 0 := by
  rcases h with ⟨-, h2, -, h⟩ | ⟨-, h2, -, -, h⟩ | ⟨-, h2, -, h⟩ | ⟨-, h2, -, h⟩
  · have key : ∀ r, r < 21 → (((aLM.getD r s0M).1.getD 0 [])[0]? = some (1, 0)) := by decide +kernel
    exact Sum.inl.inj (eG_1 (h.2.1 0 0 _ (key _ (by omega))))
  · have key : ∀ r, r < 3 → (((lLM.getD r s0M).1.getD 0 [])[0]? = some (1, 0)) := by decide +kernel
    exact Sum.inl.inj (eG_1 (h.2.1 0 0 _ (key _ (by omega))))
  · have key : ∀ r, r < 33 → (((fLM.getD r s0M).1.getD 0 [])[0]? = some (1, 0)) := by decide +kernel
    exact Sum.inl.inj (eG_1 (h.2.1 0 0 _ (key _ (by omega))))
  · have key : ∀ r, r < 3 → (((mLM.getD r s0M).1.getD 0 [])[0]? = some (1, 0)) := by decide +kernel
    exact Sum.inl.inj (eG_1 (h.2.1 0 0 _ (key _ (by omega))))
