/-! where a run from a fresh object stands behind i steps: phase, place, round; what a step takes; in all -/
def dA : List Nat := [1, 1, 1, 1, 1, 1, 1, 1, 2, 1, 2, 1, 2, 2, 2, 1, 2, 3, 2, 1, 2]
def dL : List Nat := [2, 1, 2]
def dB : List Nat := [2, 1, 2, 1, 1, 1, 1, 1, 1, 1, 1, 1, 2, 1, 1, 3, 3, 1, 1, 2, 2, 1, 2, 1, 2, 2, 2, 1, 2, 3, 2, 1, 2]
def nxP (q : Nat × Nat × Nat) : Nat × Nat × Nat :=
  if q.1 = 0 then (if q.2.1 = 20 then (1, 0, 0) else (0, q.2.1 + 1, 0))
  else if q.1 = 1 then (if q.2.1 = 2 then (if q.2.2 = 26209 then (2, 0, 0) else (1, 0, q.2.2 + 1)) else (1, q.2.1 + 1, q.2.2))
  else if q.1 = 2 then (if q.2.1 = 32 then (3, 0, 0) else (2, q.2.1 + 1, 0))
  else (if q.2.1 = 2 then (3, 0, q.2.2 + 1) else (3, q.2.1 + 1, q.2.2))
def posP : Nat → Nat × Nat × Nat
  | 0 => (0, 0, 0)
  | i + 1 => nxP (posP i)
def ddP (q : Nat × Nat × Nat) : Nat := if q.1 = 0 then dA.getD q.2.1 1 else if q.1 = 2 then dB.getD q.2.1 1 else dL.getD q.2.1 1
def D9 (i : Nat) : Nat := ddP (posP i)
def sumD : Nat → Nat
  | 0 => 0
  | i + 1 => sumD i + D9 i
theorem getD_13 {l : List Nat} (h : ∀ a ∈ l, 1 ≤ a ∧ a ≤ 3) (r : Nat) : 1 ≤ l.getD r 1 ∧ l.getD r 1 ≤ 3 := by
  rw [List.getD_eq_getElem?_getD]
  by_cases hr : r < l.length
  · rw [List.getElem?_eq_getElem hr]
    exact h _ (List.getElem_mem hr)
  · rw [List.getElem?_eq_none (by omega)]
    exact ⟨Nat.le_refl 1, by decide⟩
theorem D9_13 (i : Nat) : 1 ≤ D9 i ∧ D9 i ≤ 3 := by
  unfold D9 ddP
  split
  · exact getD_13 (by decide) _
  · split
    · exact getD_13 (by decide) _
    · exact getD_13 (by decide) _
theorem sumD_b : ∀ i, i ≤ sumD i ∧ sumD i ≤ 3 * i
  | 0 => ⟨Nat.le_refl 0, Nat.le_refl 0⟩
  | i + 1 => by
    have h := sumD_b i
    have h2 := D9_13 i
    show i + 1 ≤ sumD i + D9 i ∧ sumD i + D9 i ≤ 3 * (i + 1)
    omega
theorem sumD_m {i j : Nat} (h : i ≤ j) : sumD i ≤ sumD j := by
  induction h with
  | refl => exact Nat.le_refl _
  | step _ ih => exact Nat.le_trans ih (Nat.le_add_right _ _)
/-- the least count at which n cycles are reached is one -/
theorem sumD_u {n k k' : Nat} (h1 : n ≤ sumD k) (h2 : ∀ j, j < k → sumD j < n) (h3 : n ≤ sumD k') (h4 : ∀ j, j < k' → sumD j < n) : k = k' := by
  rcases Nat.lt_trichotomy k k' with h | h | h
  · have := h4 k h
    omega
  · exact h
  · have := h2 k' h
    omega
def ccP (a b : Int) : Nat → Int := fun t => if t = 0 then a else if t = 1 then b else 0
theorem ccP_b {a b : Int} (h1 : 0 ≤ a ∧ a ≤ 131066) (h2 : 0 ≤ b ∧ b ≤ 1000000) : eBd pLo pHi (ccP a b) := by
  intro t
  unfold pLo pHi ccP
  by_cases h : t = 0
  · rw [if_pos h, if_pos h]
    exact h1
  · rw [if_neg h, if_neg h]
    by_cases h3 : t = 1
    · rw [if_pos h3]
      exact h2
    · rw [if_neg h3]
      exact ⟨Int.le_refl 0, by decide⟩
theorem e0_b : eBd e0 e0 e0 := fun t => ⟨Int.le_refl 0, Int.le_refl 0⟩
/-- a number for a thing told by its bounds -/
theorem eG_up {c c' : Nat → Int} {n t k : Nat} {x : Int32} (h : eG c (1, n) (.inl x)) (hn : n < 2147483648) (hc : (n : Int) = c' t + (k : Int)) : eG c' (t + 3, k) (.inl x) := by
  cases eG_1 h
  exact Or.inr (Or.inr (Or.inl ⟨by omega, _, rfl, by show (Int32.ofNat n).toInt = c' (t + 3 - 3) + (k : Int); rw [show t + 3 - 3 = t by omega, ← hc]; exact nI_toInt (n := n) (by omega)⟩))
theorem eG_dn {c c' : Nat → Int} {n t k : Nat} {x : Int32} (h : eG c (t + 3, k) (.inl x)) (hn : n < 2147483648) (hc : (n : Int) = c t + (k : Int)) : eG c' (1, n) (.inl x) := by
  have hx := eG_3 (show 3 ≤ t + 3 by omega) h
  refine Or.inr (Or.inl ⟨rfl, congrArg Sum.inl (Int32.toInt_inj.mp ?_)⟩)
  rw [hx]
  show c (t + 3 - 3) + (k : Int) = (Int32.ofNat n).toInt
  rw [show t + 3 - 3 = t by omega, ← hc]
  exact (nI_toInt (n := n) (by omega)).symm
theorem eG_mv {c c' : Nat → Int} {t k k' : Nat} {x : Int32} (h : eG c (t + 3, k) (.inl x)) (hc : c t + (k : Int) = c' t + (k' : Int)) : eG c' (t + 3, k') (.inl x) := by
  have hx := eG_3 (show 3 ≤ t + 3 by omega) h
  refine Or.inr (Or.inr (Or.inl ⟨by show 3 ≤ t + 3; omega, _, rfl, ?_⟩))
  rw [hx]
  show c (t + 3 - 3) + (k : Int) = c' (t + 3 - 3) + (k' : Int)
  rw [show t + 3 - 3 = t by omega]
  exact hc
theorem eG_any {c c' : Nat → Int} {a : eV} {k : Nat} {x : Int32} : eG c a (.inl x) → eG c' (2, k) (.inl x) := fun _ => eG_t k x
def w1 (a a' : eV) : Bool := (decide (a' = a) && decide (a.1 ≤ 2)) || decide (a' = (2, 0)) || (decide (a = (1, 17)) && decide (a' = (3, 0))) || (decide (a = (1, 31)) && decide (a' = (4, 0)))
def w2 (a a' : eV) : Bool := (decide (a' = a) && decide (a.1 ≤ 2)) || (decide (a = (3, 5)) && decide (a' = (3, 0))) || (decide (a = (4, 5)) && decide (a' = (4, 0)))
def w3 (a a' : eV) : Bool := (decide (a' = a) && decide (a.1 ≤ 2)) || (decide (a = (3, 5)) && decide (a' = (1, 131067))) || (decide (a = (4, 5)) && decide (a' = (4, 0)))
def w4 (a a' : eV) : Bool := (decide (a' = a) && decide (a.1 ≤ 2)) || decide (a' = (2, 0)) || (decide (a = (1, 39)) && decide (a' = (3, 0))) || (decide (a = (4, 51)) && decide (a' = (4, 0)))
theorem w1_ok {c : Nat → Int} (a a' : eV) (h : w1 a a' = true) (x : Int32) (hg : eG c a (.inl x)) : eG (ccP 17 31) a' (.inl x) := by
  simp only [w1, Bool.or_eq_true, Bool.and_eq_true, decide_eq_true_eq] at h
  rcases h with ((⟨rfl, h⟩ | rfl) | ⟨rfl, rfl⟩) | ⟨rfl, rfl⟩
  · exact eG_w h hg
  · exact eG_t _ _
  · exact eG_up (t := 0) hg (by decide) rfl
  · exact eG_up (t := 1) hg (by decide) rfl
theorem w2_ok {a0 b0 : Int} (a a' : eV) (h : w2 a a' = true) (x : Int32) (hg : eG (ccP a0 b0) a (.inl x)) : eG (ccP (a0 + 5) (b0 + 5)) a' (.inl x) := by
  simp only [w2, Bool.or_eq_true, Bool.and_eq_true, decide_eq_true_eq] at h
  rcases h with (⟨rfl, h⟩ | ⟨rfl, rfl⟩) | ⟨rfl, rfl⟩
  · exact eG_w h hg
  · exact eG_mv (t := 0) hg (show a0 + 5 = a0 + 5 + 0 by omega)
  · exact eG_mv (t := 1) hg (show b0 + 5 = b0 + 5 + 0 by omega)
theorem w3_ok (a a' : eV) (h : w3 a a' = true) (x : Int32) (hg : eG (ccP 131062 131076) a (.inl x)) : eG (ccP 0 131081) a' (.inl x) := by
  simp only [w3, Bool.or_eq_true, Bool.and_eq_true, decide_eq_true_eq] at h
  rcases h with (⟨rfl, h⟩ | ⟨rfl, rfl⟩) | ⟨rfl, rfl⟩
  · exact eG_w h hg
  · exact eG_dn (t := 0) hg (by decide) rfl
  · exact eG_mv (t := 1) hg rfl
theorem w4_ok (a a' : eV) (h : w4 a a' = true) (x : Int32) (hg : eG (ccP 0 131081) a (.inl x)) : eG (ccP 39 131132) a' (.inl x) := by
  simp only [w4, Bool.or_eq_true, Bool.and_eq_true, decide_eq_true_eq] at h
  rcases h with ((⟨rfl, h⟩ | rfl) | ⟨rfl, rfl⟩) | ⟨rfl, rfl⟩
  · exact eG_w h hg
  · exact eG_t _ _
  · exact eG_up (t := 0) hg (by decide) rfl
  · exact eG_mv (t := 1) hg rfl
def lo3 : List Nat := [0, 2, 3]
def aLC : List eSt := [s0C, aC_1, aC_2, aC_3, aC_4, aC_5, aC_6, aC_7, aC_8, aC_9, aC_10, aC_11, aC_12, aC_13, aC_14, aC_15, aC_16, aC_17, aC_18, aC_19, aC_20, aC_21]
def lLC : List eSt := [lC_0, lC_1, lC_2, lC_3]
def fLC : List eSt := [fC_0, fC_1, fC_2, fC_3, fC_4, fC_5, fC_6, fC_7, fC_8, fC_9, fC_10, fC_11, fC_12, fC_13, fC_14, fC_15, fC_16, fC_17, fC_18, fC_19, fC_20, fC_21, fC_22, fC_23, fC_24, fC_25, fC_26, fC_27, fC_28, fC_29, fC_30, fC_31, fC_32, fC_33]
def mLC : List eSt := [mC_0, mC_1, mC_2, mC_3]
set_option maxRecDepth 100000 in
theorem xAC : ∀ j, j < 21 → eEv e0 e0 shC dfC pgC 1400 14 106 [(0, 0)] (aLC.getD j s0C) = some (some (1, dA.getD j 1), aLC.getD (j + 1) s0C) := by
  intro j hj
  rcases (show j = 0 ∨ j = 1 ∨ j = 2 ∨ j = 3 ∨ j = 4 ∨ j = 5 ∨ j = 6 ∨ j = 7 ∨ j = 8 ∨ j = 9 ∨ j = 10 ∨ j = 11 ∨ j = 12 ∨ j = 13 ∨ j = 14 ∨ j = 15 ∨ j = 16 ∨ j = 17 ∨ j = 18 ∨ j = 19 ∨ j = 20 by omega) with rfl | rfl | rfl | rfl | rfl | rfl | rfl | rfl | rfl | rfl | rfl | rfl | rfl | rfl | rfl | rfl | rfl | rfl | rfl | rfl | rfl
  · exact raC_0
  · exact raC_1
  · exact raC_2
  · exact raC_3
  · exact raC_4
  · exact raC_5
  · exact raC_6
  · exact raC_7
  · exact raC_8
  · exact raC_9
  · exact raC_10
  · exact raC_11
  · exact raC_12
  · exact raC_13
  · exact raC_14
  · exact raC_15
  · exact raC_16
  · exact raC_17
  · exact raC_18
  · exact raC_19
  · exact raC_20
set_option maxRecDepth 100000 in
theorem xLC : ∀ j, j < 3 → eEv pLo pHi shC dfC pgC 1400 14 106 [(0, 0)] (lLC.getD j s0C) = some (some (1, dL.getD j 1), lLC.getD (j + 1) s0C) := by
  intro j hj
  rcases (show j = 0 ∨ j = 1 ∨ j = 2 by omega) with rfl | rfl | rfl
  · exact rlC_0
  · exact rlC_1
  · exact rlC_2
set_option maxRecDepth 100000 in
theorem xFC : ∀ j, j < 33 → eEv pLo pHi shC dfC pgC 1400 14 106 [(0, 0)] (fLC.getD j s0C) = some (some (1, dB.getD j 1), fLC.getD (j + 1) s0C) := by
  intro j hj
  rcases (show j = 0 ∨ j = 1 ∨ j = 2 ∨ j = 3 ∨ j = 4 ∨ j = 5 ∨ j = 6 ∨ j = 7 ∨ j = 8 ∨ j = 9 ∨ j = 10 ∨ j = 11 ∨ j = 12 ∨ j = 13 ∨ j = 14 ∨ j = 15 ∨ j = 16 ∨ j = 17 ∨ j = 18 ∨ j = 19 ∨ j = 20 ∨ j = 21 ∨ j = 22 ∨ j = 23 ∨ j = 24 ∨ j = 25 ∨ j = 26 ∨ j = 27 ∨ j = 28 ∨ j = 29 ∨ j = 30 ∨ j = 31 ∨ j = 32 by omega) with rfl | rfl | rfl | rfl | rfl | rfl | rfl | rfl | rfl | rfl | rfl | rfl | rfl | rfl | rfl | rfl | rfl | rfl | rfl | rfl | rfl | rfl | rfl | rfl | rfl | rfl | rfl | rfl | rfl | rfl | rfl | rfl | rfl
  · exact rfC_0
  · exact rfC_1
  · exact rfC_2
  · exact rfC_3
  · exact rfC_4
  · exact rfC_5
  · exact rfC_6
  · exact rfC_7
  · exact rfC_8
  · exact rfC_9
  · exact rfC_10
  · exact rfC_11
  · exact rfC_12
  · exact rfC_13
  · exact rfC_14
  · exact rfC_15
  · exact rfC_16
  · exact rfC_17
  · exact rfC_18
  · exact rfC_19
  · exact rfC_20
  · exact rfC_21
  · exact rfC_22
  · exact rfC_23
  · exact rfC_24
  · exact rfC_25
  · exact rfC_26
  · exact rfC_27
  · exact rfC_28
  · exact rfC_29
  · exact rfC_30
  · exact rfC_31
  · exact rfC_32
set_option maxRecDepth 100000 in
theorem xMC : ∀ j, j < 3 → eEv pLo pHi shC dfC pgC 1400 14 106 [(0, 0)] (mLC.getD j s0C) = some (some (1, dL.getD j 1), mLC.getD (j + 1) s0C) := by
  intro j hj
  rcases (show j = 0 ∨ j = 1 ∨ j = 2 by omega) with rfl | rfl | rfl
  · exact rmC_0
  · exact rmC_1
  · exact rmC_2
theorem wk1C : eWk w1 aC_21 lC_0 = true := by decide +kernel
theorem wk2C : eWk w2 lC_3 lC_0 = true := by decide +kernel
theorem wk3C : eWk w3 lC_3 fC_0 = true := by decide +kernel
theorem wk4C : eWk w4 fC_33 mC_0 = true := by decide +kernel
theorem wk5C : eWk w2 mC_3 mC_0 = true := by decide +kernel
theorem stC {c : Nat → Int} {lo hi : Nat → Int} (hb : eBd lo hi c) {s s' : eSt} {n : Nat} (h : eEv lo hi shC dfC pgC 1400 14 106 [(0, 0)] s = some (some (1, n), s')) {f : mFn} {g : mGn} (hs : eOk c dfC s f g) {K : mKr} (hK : ∀ f' g', eOk c dfC s' f' g' → K (some (.inl (nI n))) f' g') : spX8_oneStep [.inr 0] f g K :=
  eEv_ok hb prC 14 106 _ _ _ _ h [.inr 0] f g K ⟨eG_r 0, trivial⟩ hs (fun v f' g' hv hs' => by
    cases v with
    | none => exact False.elim hv
    | some v =>
      cases eG_1 hv
      exact hK f' g' hs')
def InC (q : Nat × Nat × Nat) (S : Nat) (f : mFn) (g : mGn) : Prop :=
  (q.1 = 0 ∧ q.2.1 ≤ 20 ∧ S = (dA.take q.2.1).sum ∧ eOk e0 dfC (aLC.getD q.2.1 s0C) f g) ∨
  (q.1 = 1 ∧ q.2.1 ≤ 2 ∧ q.2.2 ≤ 26209 ∧ S = 31 + 5 * q.2.2 + lo3.getD q.2.1 0 ∧ eOk (ccP (17 + 5 * (q.2.2 : Int)) (31 + 5 * (q.2.2 : Int))) dfC (lLC.getD q.2.1 s0C) f g) ∨
  (q.1 = 2 ∧ q.2.1 ≤ 32 ∧ S = 131081 + (dB.take q.2.1).sum ∧ eOk (ccP 0 131081) dfC (fLC.getD q.2.1 s0C) f g) ∨
  (q.1 = 3 ∧ q.2.1 ≤ 2 ∧ S = 131132 + 5 * q.2.2 + lo3.getD q.2.1 0 ∧ eOk (ccP (39 + 5 * (q.2.2 : Int)) (131132 + 5 * (q.2.2 : Int))) dfC (mLC.getD q.2.1 s0C) f g)
def InvC (i : Nat) (f : mFn) (g : mGn) : Prop := InC (posP i) (sumD i) f g
def SPInC (S : mSp) : Prop := ∀ (i : Nat) (f : mFn) (g : mGn) (K : mKr), InvC i f g → sumD i < 200000 → (∀ f' g', InvC (i + 1) f' g' → K (some (.inl (nI (D9 i)))) f' g') → S [.inr 0] f g K
theorem sumA : ∀ j, j < 21 → (dA.take j).sum + dA.getD j 1 = (dA.take (j + 1)).sum := by decide +kernel
theorem sumB : ∀ j, j < 33 → (dB.take j).sum + dB.getD j 1 = (dB.take (j + 1)).sum := by decide +kernel
set_option maxRecDepth 100000 in
theorem stepC : SPInC spX8_oneStep := by
  intro i f g K hI hS hK
  unfold InvC at hI hK
  rw [show posP (i + 1) = nxP (posP i) from rfl, show sumD (i + 1) = sumD i + D9 i from rfl] at hK
  unfold D9 at hK
  generalize posP i = q at hI hK
  generalize sumD i = S at hI hK hS
  obtain ⟨ph, r, k⟩ := q
  rcases hI with ⟨h1, h2, h3, h4⟩ | ⟨h1, h2, h3, h4, h5⟩ | ⟨h1, h2, h3, h4⟩ | ⟨h1, h2, h3, h4⟩
  · dsimp only at h1 h2 h3 h4
    subst h1
    refine stC e0_b (xAC r (by omega)) h4 (fun f' g' hs => ?_)
    refine hK f' g' ?_
    have hsum := sumA r (by omega)
    show InC (if r = 20 then (1, 0, 0) else (0, r + 1, 0)) (S + dA.getD r 1) f' g'
    split
    · next e =>
      subst e
      refine Or.inr (Or.inl ⟨rfl, by decide, by decide, ?_, ?_⟩)
      · rw [h3, hsum]; decide
      · exact eWk_ok (p := w1) w1_ok wk1C hs
    · next e => exact Or.inl ⟨rfl, by show r + 1 ≤ 20; omega, by rw [h3, hsum], hs⟩
  · dsimp only at h1 h2 h3 h4 h5
    subst h1
    refine stC (ccP_b ⟨by omega, by omega⟩ ⟨by omega, by omega⟩) (xLC r (by omega)) h5 (fun f' g' hs => ?_)
    refine hK f' g' ?_
    show InC (if r = 2 then (if k = 26209 then (2, 0, 0) else (1, 0, k + 1)) else (1, r + 1, k)) (S + dL.getD r 1) f' g'
    split
    · next e =>
      subst e
      split
      · next e2 =>
        subst e2
        have hs : eOk (ccP 131062 131076) dfC lC_3 f' g' := hs
        exact Or.inr (Or.inr (Or.inl ⟨rfl, by decide, by rw [h4]; decide, eWk_ok (p := w3) w3_ok wk3C hs⟩))
      · next e2 =>
        refine Or.inr (Or.inl ⟨rfl, Nat.zero_le _, by show k + 1 ≤ 26209; omega, ?_, ?_⟩)
        · rw [h4, show lo3.getD 2 0 = 3 from rfl, show dL.getD 2 1 = 2 from rfl]
          show 31 + 5 * k + 3 + 2 = 31 + 5 * (k + 1) + 0
          omega
        · have h := eWk_ok (p := w2) (c := ccP (17 + 5 * (k : Int)) (31 + 5 * (k : Int))) w2_ok wk2C hs
          show eOk (ccP (17 + 5 * ((k + 1 : Nat) : Int)) (31 + 5 * ((k + 1 : Nat) : Int))) dfC lC_0 f' g'
          rw [show (17 : Int) + 5 * ((k + 1 : Nat) : Int) = 17 + 5 * (k : Int) + 5 by omega, show (31 : Int) + 5 * ((k + 1 : Nat) : Int) = 31 + 5 * (k : Int) + 5 by omega]
          exact h
    · next e =>
      refine Or.inr (Or.inl ⟨rfl, by show r + 1 ≤ 2; omega, h3, ?_, hs⟩)
      rw [h4]
      rcases (show r = 0 ∨ r = 1 by omega) with rfl | rfl
      · show 31 + 5 * k + 0 + 2 = 31 + 5 * k + 2; omega
      · show 31 + 5 * k + 2 + 1 = 31 + 5 * k + 3; omega
  · dsimp only at h1 h2 h3 h4
    subst h1
    refine stC (ccP_b ⟨by decide, by decide⟩ ⟨by decide, by decide⟩) (xFC r (by omega)) h4 (fun f' g' hs => ?_)
    refine hK f' g' ?_
    have hsum := sumB r (by omega)
    show InC (if r = 32 then (3, 0, 0) else (2, r + 1, 0)) (S + dB.getD r 1) f' g'
    split
    · next e =>
      subst e
      refine Or.inr (Or.inr (Or.inr ⟨rfl, by decide, ?_, ?_⟩))
      · rw [h3, Nat.add_assoc, hsum]; decide
      · exact eWk_ok (p := w4) w4_ok wk4C hs
    · next e => exact Or.inr (Or.inr (Or.inl ⟨rfl, by show r + 1 ≤ 32; omega, by rw [h3, Nat.add_assoc, hsum], hs⟩))
  · dsimp only at h1 h2 h3 h4
    subst h1
    refine stC (ccP_b ⟨by omega, by omega⟩ ⟨by omega, by omega⟩) (xMC r (by omega)) h4 (fun f' g' hs => ?_)
    refine hK f' g' ?_
    show InC (if r = 2 then (3, 0, k + 1) else (3, r + 1, k)) (S + dL.getD r 1) f' g'
    split
    · next e =>
      subst e
      refine Or.inr (Or.inr (Or.inr ⟨rfl, Nat.zero_le _, ?_, ?_⟩))
      · rw [h3, show lo3.getD 2 0 = 3 from rfl, show dL.getD 2 1 = 2 from rfl]
        show 131132 + 5 * k + 3 + 2 = 131132 + 5 * (k + 1) + 0
        omega
      · have h := eWk_ok (p := w2) (c := ccP (39 + 5 * (k : Int)) (131132 + 5 * (k : Int))) w2_ok wk5C hs
        show eOk (ccP (39 + 5 * ((k + 1 : Nat) : Int)) (131132 + 5 * ((k + 1 : Nat) : Int))) dfC mC_0 f' g'
        rw [show (39 : Int) + 5 * ((k + 1 : Nat) : Int) = 39 + 5 * (k : Int) + 5 by omega, show (131132 : Int) + 5 * ((k + 1 : Nat) : Int) = 131132 + 5 * (k : Int) + 5 by omega]
        exact h
    · next e =>
      refine Or.inr (Or.inr (Or.inr ⟨rfl, by show r + 1 ≤ 2; omega, ?_, hs⟩))
      rw [h3]
      rcases (show r = 0 ∨ r = 1 by omega) with rfl | rfl
      · show 131132 + 5 * k + 0 + 2 = 131132 + 5 * k + 2; omega
      · show 131132 + 5 * k + 2 + 1 = 131132 + 5 * k + 3; omega
def aLM : List eSt := [s0M, aM_1, aM_2, aM_3, aM_4, aM_5, aM_6, aM_7, aM_8, aM_9, aM_10, aM_11, aM_12, aM_13, aM_14, aM_15, aM_16, aM_17, aM_18, aM_19, aM_20, aM_21]
def lLM : List eSt := [lM_0, lM_1, lM_2, lM_3]
def fLM : List eSt := [fM_0, fM_1, fM_2, fM_3, fM_4, fM_5, fM_6, fM_7, fM_8, fM_9, fM_10, fM_11, fM_12, fM_13, fM_14, fM_15, fM_16, fM_17, fM_18, fM_19, fM_20, fM_21, fM_22, fM_23, fM_24, fM_25, fM_26, fM_27, fM_28, fM_29, fM_30, fM_31, fM_32, fM_33]
def mLM : List eSt := [mM_0, mM_1, mM_2, mM_3]
set_option maxRecDepth 100000 in
theorem xAM : ∀ j, j < 21 → eEv e0 e0 shM dfM pgM 1400 14 61 [(0, 0)] (aLM.getD j s0M) = some (some (1, dA.getD j 1), aLM.getD (j + 1) s0M) := by
  intro j hj
  rcases (show j = 0 ∨ j = 1 ∨ j = 2 ∨ j = 3 ∨ j = 4 ∨ j = 5 ∨ j = 6 ∨ j = 7 ∨ j = 8 ∨ j = 9 ∨ j = 10 ∨ j = 11 ∨ j = 12 ∨ j = 13 ∨ j = 14 ∨ j = 15 ∨ j = 16 ∨ j = 17 ∨ j = 18 ∨ j = 19 ∨ j = 20 by omega) with rfl | rfl | rfl | rfl | rfl | rfl | rfl | rfl | rfl | rfl | rfl | rfl | rfl | rfl | rfl | rfl | rfl | rfl | rfl | rfl | rfl
  · exact raM_0
  · exact raM_1
  · exact raM_2
  · exact raM_3
  · exact raM_4
  · exact raM_5
  · exact raM_6
  · exact raM_7
  · exact raM_8
  · exact raM_9
  · exact raM_10
  · exact raM_11
  · exact raM_12
  · exact raM_13
  · exact raM_14
  · exact raM_15
  · exact raM_16
  · exact raM_17
  · exact raM_18
  · exact raM_19
  · exact raM_20
set_option maxRecDepth 100000 in
theorem xLM : ∀ j, j < 3 → eEv pLo pHi shM dfM pgM 1400 14 61 [(0, 0)] (lLM.getD j s0M) = some (some (1, dL.getD j 1), lLM.getD (j + 1) s0M) := by
  intro j hj
  rcases (show j = 0 ∨ j = 1 ∨ j = 2 by omega) with rfl | rfl | rfl
  · exact rlM_0
  · exact rlM_1
  · exact rlM_2
set_option maxRecDepth 100000 in
theorem xFM : ∀ j, j < 33 → eEv pLo pHi shM dfM pgM 1400 14 61 [(0, 0)] (fLM.getD j s0M) = some (some (1, dB.getD j 1), fLM.getD (j + 1) s0M) := by
  intro j hj
  rcases (show j = 0 ∨ j = 1 ∨ j = 2 ∨ j = 3 ∨ j = 4 ∨ j = 5 ∨ j = 6 ∨ j = 7 ∨ j = 8 ∨ j = 9 ∨ j = 10 ∨ j = 11 ∨ j = 12 ∨ j = 13 ∨ j = 14 ∨ j = 15 ∨ j = 16 ∨ j = 17 ∨ j = 18 ∨ j = 19 ∨ j = 20 ∨ j = 21 ∨ j = 22 ∨ j = 23 ∨ j = 24 ∨ j = 25 ∨ j = 26 ∨ j = 27 ∨ j = 28 ∨ j = 29 ∨ j = 30 ∨ j = 31 ∨ j = 32 by omega) with rfl | rfl | rfl | rfl | rfl | rfl | rfl | rfl | rfl | rfl | rfl | rfl | rfl | rfl | rfl | rfl | rfl | rfl | rfl | rfl | rfl | rfl | rfl | rfl | rfl | rfl | rfl | rfl | rfl | rfl | rfl | rfl | rfl
  · exact rfM_0
  · exact rfM_1
  · exact rfM_2
  · exact rfM_3
  · exact rfM_4
  · exact rfM_5
  · exact rfM_6
  · exact rfM_7
  · exact rfM_8
  · exact rfM_9
  · exact rfM_10
  · exact rfM_11
  · exact rfM_12
  · exact rfM_13
  · exact rfM_14
  · exact rfM_15
  · exact rfM_16
  · exact rfM_17
  · exact rfM_18
  · exact rfM_19
  · exact rfM_20
  · exact rfM_21
  · exact rfM_22
  · exact rfM_23
  · exact rfM_24
  · exact rfM_25
  · exact rfM_26
  · exact rfM_27
  · exact rfM_28
  · exact rfM_29
  · exact rfM_30
  · exact rfM_31
  · exact rfM_32
set_option maxRecDepth 100000 in
theorem xMM : ∀ j, j < 3 → eEv pLo pHi shM dfM pgM 1400 14 61 [(0, 0)] (mLM.getD j s0M) = some (some (1, dL.getD j 1), mLM.getD (j + 1) s0M) := by
  intro j hj
  rcases (show j = 0 ∨ j = 1 ∨ j = 2 by omega) with rfl | rfl | rfl
  · exact rmM_0
  · exact rmM_1
  · exact rmM_2
theorem wk1M : eWk w1 aM_21 lM_0 = true := by decide +kernel
theorem wk2M : eWk w2 lM_3 lM_0 = true := by decide +kernel
theorem wk3M : eWk w3 lM_3 fM_0 = true := by decide +kernel
theorem wk4M : eWk w4 fM_33 mM_0 = true := by decide +kernel
theorem wk5M : eWk w2 mM_3 mM_0 = true := by decide +kernel
theorem stM {c : Nat → Int} {lo hi : Nat → Int} (hb : eBd lo hi c) {s s' : eSt} {n : Nat} (h : eEv lo hi shM dfM pgM 1400 14 61 [(0, 0)] s = some (some (1, n), s')) {f : mFn} {g : mGn} (hs : eOk c dfM s f g) {K : mKr} (hK : ∀ f' g', eOk c dfM s' f' g' → K (some (.inl (nI n))) f' g') : spX9_stepped [.inr 0] f g K :=
  eEv_ok hb prM 14 61 _ _ _ _ h [.inr 0] f g K ⟨eG_r 0, trivial⟩ hs (fun v f' g' hv hs' => by
    cases v with
    | none => exact False.elim hv
    | some v =>
      cases eG_1 hv
      exact hK f' g' hs')
def InM (q : Nat × Nat × Nat) (S : Nat) (f : mFn) (g : mGn) : Prop :=
  (q.1 = 0 ∧ q.2.1 ≤ 20 ∧ S = (dA.take q.2.1).sum ∧ eOk e0 dfM (aLM.getD q.2.1 s0M) f g) ∨
  (q.1 = 1 ∧ q.2.1 ≤ 2 ∧ q.2.2 ≤ 26209 ∧ S = 31 + 5 * q.2.2 + lo3.getD q.2.1 0 ∧ eOk (ccP (17 + 5 * (q.2.2 : Int)) (31 + 5 * (q.2.2 : Int))) dfM (lLM.getD q.2.1 s0M) f g) ∨
  (q.1 = 2 ∧ q.2.1 ≤ 32 ∧ S = 131081 + (dB.take q.2.1).sum ∧ eOk (ccP 0 131081) dfM (fLM.getD q.2.1 s0M) f g) ∨
  (q.1 = 3 ∧ q.2.1 ≤ 2 ∧ S = 131132 + 5 * q.2.2 + lo3.getD q.2.1 0 ∧ eOk (ccP (39 + 5 * (q.2.2 : Int)) (131132 + 5 * (q.2.2 : Int))) dfM (mLM.getD q.2.1 s0M) f g)
def InvM (i : Nat) (f : mFn) (g : mGn) : Prop := InM (posP i) (sumD i) f g
def SPInM (S : mSp) : Prop := ∀ (i : Nat) (f : mFn) (g : mGn) (K : mKr), InvM i f g → sumD i < 200000 → (∀ f' g', InvM (i + 1) f' g' → K (some (.inl (nI (D9 i)))) f' g') → S [.inr 0] f g K
set_option maxRecDepth 100000 in
theorem stepM : SPInM spX9_stepped := by
  intro i f g K hI hS hK
  unfold InvM at hI hK
  rw [show posP (i + 1) = nxP (posP i) from rfl, show sumD (i + 1) = sumD i + D9 i from rfl] at hK
  unfold D9 at hK
  generalize posP i = q at hI hK
  generalize sumD i = S at hI hK hS
  obtain ⟨ph, r, k⟩ := q
  rcases hI with ⟨h1, h2, h3, h4⟩ | ⟨h1, h2, h3, h4, h5⟩ | ⟨h1, h2, h3, h4⟩ | ⟨h1, h2, h3, h4⟩
  · dsimp only at h1 h2 h3 h4
    subst h1
    refine stM e0_b (xAM r (by omega)) h4 (fun f' g' hs => ?_)
    refine hK f' g' ?_
    have hsum := sumA r (by omega)
    show InM (if r = 20 then (1, 0, 0) else (0, r + 1, 0)) (S + dA.getD r 1) f' g'
    split
    · next e =>
      subst e
      refine Or.inr (Or.inl ⟨rfl, by decide, by decide, ?_, ?_⟩)
      · rw [h3, hsum]; decide
      · exact eWk_ok (p := w1) w1_ok wk1M hs
    · next e => exact Or.inl ⟨rfl, by show r + 1 ≤ 20; omega, by rw [h3, hsum], hs⟩
  · dsimp only at h1 h2 h3 h4 h5
    subst h1
    refine stM (ccP_b ⟨by omega, by omega⟩ ⟨by omega, by omega⟩) (xLM r (by omega)) h5 (fun f' g' hs => ?_)
    refine hK f' g' ?_
    show InM (if r = 2 then (if k = 26209 then (2, 0, 0) else (1, 0, k + 1)) else (1, r + 1, k)) (S + dL.getD r 1) f' g'
    split
    · next e =>
      subst e
      split
      · next e2 =>
        subst e2
        have hs : eOk (ccP 131062 131076) dfM lM_3 f' g' := hs
        exact Or.inr (Or.inr (Or.inl ⟨rfl, by decide, by rw [h4]; decide, eWk_ok (p := w3) w3_ok wk3M hs⟩))
      · next e2 =>
        refine Or.inr (Or.inl ⟨rfl, Nat.zero_le _, by show k + 1 ≤ 26209; omega, ?_, ?_⟩)
        · rw [h4, show lo3.getD 2 0 = 3 from rfl, show dL.getD 2 1 = 2 from rfl]
          show 31 + 5 * k + 3 + 2 = 31 + 5 * (k + 1) + 0
          omega
        · have h := eWk_ok (p := w2) (c := ccP (17 + 5 * (k : Int)) (31 + 5 * (k : Int))) w2_ok wk2M hs
          show eOk (ccP (17 + 5 * ((k + 1 : Nat) : Int)) (31 + 5 * ((k + 1 : Nat) : Int))) dfM lM_0 f' g'
          rw [show (17 : Int) + 5 * ((k + 1 : Nat) : Int) = 17 + 5 * (k : Int) + 5 by omega, show (31 : Int) + 5 * ((k + 1 : Nat) : Int) = 31 + 5 * (k : Int) + 5 by omega]
          exact h
    · next e =>
      refine Or.inr (Or.inl ⟨rfl, by show r + 1 ≤ 2; omega, h3, ?_, hs⟩)
      rw [h4]
      rcases (show r = 0 ∨ r = 1 by omega) with rfl | rfl
      · show 31 + 5 * k + 0 + 2 = 31 + 5 * k + 2; omega
      · show 31 + 5 * k + 2 + 1 = 31 + 5 * k + 3; omega
  · dsimp only at h1 h2 h3 h4
    subst h1
    refine stM (ccP_b ⟨by decide, by decide⟩ ⟨by decide, by decide⟩) (xFM r (by omega)) h4 (fun f' g' hs => ?_)
    refine hK f' g' ?_
    have hsum := sumB r (by omega)
    show InM (if r = 32 then (3, 0, 0) else (2, r + 1, 0)) (S + dB.getD r 1) f' g'
    split
    · next e =>
      subst e
      refine Or.inr (Or.inr (Or.inr ⟨rfl, by decide, ?_, ?_⟩))
      · rw [h3, Nat.add_assoc, hsum]; decide
      · exact eWk_ok (p := w4) w4_ok wk4M hs
    · next e => exact Or.inr (Or.inr (Or.inl ⟨rfl, by show r + 1 ≤ 32; omega, by rw [h3, Nat.add_assoc, hsum], hs⟩))
  · dsimp only at h1 h2 h3 h4
    subst h1
    refine stM (ccP_b ⟨by omega, by omega⟩ ⟨by omega, by omega⟩) (xMM r (by omega)) h4 (fun f' g' hs => ?_)
    refine hK f' g' ?_
    show InM (if r = 2 then (3, 0, k + 1) else (3, r + 1, k)) (S + dL.getD r 1) f' g'
    split
    · next e =>
      subst e
      refine Or.inr (Or.inr (Or.inr ⟨rfl, Nat.zero_le _, ?_, ?_⟩))
      · rw [h3, show lo3.getD 2 0 = 3 from rfl, show dL.getD 2 1 = 2 from rfl]
        show 131132 + 5 * k + 3 + 2 = 131132 + 5 * (k + 1) + 0
        omega
      · have h := eWk_ok (p := w2) (c := ccP (39 + 5 * (k : Int)) (131132 + 5 * (k : Int))) w2_ok wk5M hs
        show eOk (ccP (39 + 5 * ((k + 1 : Nat) : Int)) (131132 + 5 * ((k + 1 : Nat) : Int))) dfM mM_0 f' g'
        rw [show (39 : Int) + 5 * ((k + 1 : Nat) : Int) = 39 + 5 * (k : Int) + 5 by omega, show (131132 : Int) + 5 * ((k + 1 : Nat) : Int) = 131132 + 5 * (k : Int) + 5 by omega]
        exact h
    · next e =>
      refine Or.inr (Or.inr (Or.inr ⟨rfl, by show r + 1 ≤ 2; omega, ?_, hs⟩))
      rw [h3]
      rcases (show r = 0 ∨ r = 1 by omega) with rfl | rfl
      · show 131132 + 5 * k + 0 + 2 = 131132 + 5 * k + 2; omega
      · show 131132 + 5 * k + 2 + 1 = 131132 + 5 * k + 3; omega
