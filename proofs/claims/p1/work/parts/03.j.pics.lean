/-! a list of methods, one by one -/
def ePl (sh : mSh) (sps : Nat → mSp) : Nat → List eMt → Prop
  | _, [] => True
  | i, m :: r => sps i = mSpOf sh m.1 (eMc sps m.2.1) m.2.2.1 m.2.2.2.1 m.2.2.2.2 ∧ ePl sh sps (i + 1) r
theorem ePl_at {sh : mSh} {sps : Nat → mSp} : ∀ (P : List eMt) (i : Nat), ePl sh sps i P → ∀ (k : Nat) (m : eMt), P[k]? = some m → sps (i + k) = mSpOf sh m.1 (eMc sps m.2.1) m.2.2.1 m.2.2.2.1 m.2.2.2.2
  | [], _, _, k, m, h => by simp at h
  | q :: r, i, hP, 0, m, h => by
    simp at h
    subst h
    exact hP.1
  | q :: r, i, hP, k + 1, m, h => by
    rw [List.getElem?_cons_succ] at h
    have := ePl_at r (i + 1) hP.2 k m h
    rw [show i + (k + 1) = i + 1 + k by omega]
    exact this
theorem ePl_ok {sh : mSh} {sps : Nat → mSp} {P : List eMt} (h : ePl sh sps 0 P) : ePr sh P sps := fun id m hm => by
  have := ePl_at P 0 h id m hm
  rwa [Nat.zero_add] at this
/-- pictures: that a state is within one, by looking at it -/
def eCk (s : eSt) (f : mFn) : Bool := (s.1.zipIdx).all (fun q => decide (q.1.length ≤ 64) && (q.1.zipIdx).all (fun a => (decide (a.1.1 = 2)) || (decide (a.1.1 = 1) && decide (f (64 * q.2 + a.2) = Int32.ofNat a.1.2))))
theorem eCk_ok {c : Nat → Int} {s : eSt} {f : mFn} (h : eCk s f = true) : (∀ j, (s.1.getD j []).length ≤ 64) ∧ (∀ j k a, (s.1.getD j [])[k]? = some a → eG c a (.inl (f (64 * j + k)))) := by
  have key : ∀ j, j < s.1.length → (s.1.getD j []).length ≤ 64 ∧ ∀ k a, (s.1.getD j [])[k]? = some a → eG c a (.inl (f (64 * j + k))) := by
    intro j hj
    have hm : (s.1[j], j) ∈ s.1.zipIdx := List.mem_zipIdx_iff_getElem?.mpr (List.getElem?_eq_getElem hj)
    have h1 := List.all_eq_true.mp h _ hm
    simp only [Bool.and_eq_true, decide_eq_true_eq] at h1
    have e : s.1.getD j [] = s.1[j] := by rw [List.getD_eq_getElem?_getD, List.getElem?_eq_getElem hj]; rfl
    rw [e]
    refine ⟨h1.1, fun k a ha => ?_⟩
    have hm2 : (a, k) ∈ (s.1[j]).zipIdx := List.mem_zipIdx_iff_getElem?.mpr ha
    have h2 := List.all_eq_true.mp h1.2 _ hm2
    obtain ⟨a1, a2⟩ := a
    simp only [Bool.or_eq_true, Bool.and_eq_true, decide_eq_true_eq] at h2
    rcases h2 with h2 | ⟨h2, h3⟩
    · subst h2; exact eG_t _ _
    · subst h2
      rw [h3]
      exact eG_c _
  refine ⟨fun j => ?_, fun j k a ha => ?_⟩
  · by_cases hj : j < s.1.length
    · exact (key j hj).1
    · rw [List.getD_eq_getElem?_getD, List.getElem?_eq_none (by omega)]
      exact Nat.zero_le _
  · by_cases hj : j < s.1.length
    · exact (key j hj).2 k a ha
    · rw [eGD_o (by omega)] at ha
      simp at ha
/-- from one picture to another -/
def eWk (p : eV → eV → Bool) (s s' : eSt) : Bool := decide (s.1.length = s'.1.length) && (s.1.zip s'.1).all (fun q => decide (q.1.length = q.2.length) && (q.1.zip q.2).all (fun a => p a.1 a.2)) && decide (s.2 = s'.2) && s.2.all (fun r => r.all (fun a => decide (a.2.1 ≤ 2)))
theorem eG_w {c c' : Nat → Int} {a : eV} {v : mV} (ha : a.1 ≤ 2) (h : eG c a v) : eG c' a v := by
  rcases h with h | h | ⟨h, -⟩ | h
  · exact Or.inl h
  · exact Or.inr (Or.inl h)
  · omega
  · exact Or.inr (Or.inr (Or.inr h))
theorem eGet_mem : ∀ {l : eL} {i : Nat} {a : eV}, eGet l i = some a → (i, a) ∈ l
  | [], _, _, h => by cases h
  | q :: r, i, a, h => by
    simp only [eGet] at h
    split at h
    · next e =>
      cases h
      subst e
      exact List.mem_cons_self
    · exact List.mem_cons_of_mem _ (eGet_mem h)
theorem eWk_ok {c c' : Nat → Int} {df : Nat → Nat → Nat} {p : eV → eV → Bool} (hp : ∀ a a', p a a' = true → ∀ x : Int32, eG c a (.inl x) → eG c' a' (.inl x)) {s s' : eSt} (h : eWk p s s' = true) {f : mFn} {g : mGn} (hs : eOk c df s f g) : eOk c' df s' f g := by
  simp only [eWk, Bool.and_eq_true, decide_eq_true_eq] at h
  obtain ⟨⟨⟨h1, h2⟩, h3⟩, h4⟩ := h
  obtain ⟨k1, k2, k3⟩ := hs
  have key : ∀ j, j < s.1.length → (s.1.getD j []).length = (s'.1.getD j []).length ∧ ∀ (k : Nat) a a', (s.1.getD j [])[k]? = some a → (s'.1.getD j [])[k]? = some a' → p a a' = true := by
    intro j hj
    have hj' : j < s'.1.length := by omega
    have e : s.1.getD j [] = s.1[j] := by rw [List.getD_eq_getElem?_getD, List.getElem?_eq_getElem hj]; rfl
    have e' : s'.1.getD j [] = s'.1[j] := by rw [List.getD_eq_getElem?_getD, List.getElem?_eq_getElem hj']; rfl
    have hm : (s.1[j], s'.1[j]) ∈ s.1.zip s'.1 := List.mem_of_getElem? (i := j) (by rw [List.getElem?_zip_eq_some]; exact ⟨List.getElem?_eq_getElem hj, List.getElem?_eq_getElem hj'⟩)
    have h5 := List.all_eq_true.mp h2 _ hm
    simp only [Bool.and_eq_true, decide_eq_true_eq] at h5
    rw [e, e']
    refine ⟨h5.1, fun k a a' ha ha' => ?_⟩
    have hm2 : (a, a') ∈ (s.1[j]).zip (s'.1[j]) := List.mem_of_getElem? (i := k) (by rw [List.getElem?_zip_eq_some]; exact ⟨ha, ha'⟩)
    exact List.all_eq_true.mp h5.2 _ hm2
  refine ⟨fun j => ?_, fun j k a' ha' => ?_, fun j i => ?_⟩
  · by_cases hj : j < s.1.length
    · rw [← (key j hj).1]; exact k1 j
    · rw [List.getD_eq_getElem?_getD, List.getElem?_eq_none (by omega)]
      exact Nat.zero_le _
  · by_cases hj : j < s.1.length
    · obtain ⟨e, hpp⟩ := key j hj
      have hk : k < (s.1.getD j []).length := by rw [e]; exact (List.getElem?_eq_some_iff.mp ha').1
      have ha := List.getElem?_eq_getElem hk
      exact hp _ _ (hpp k _ _ ha ha') _ (k2 j k _ ha)
    · rw [eGD_o (by omega)] at ha'
      simp at ha'
  · have h9 := k3 j i
    rw [← h3]
    unfold eRg at h9 ⊢
    split at h9
    · next a ea =>
      refine eG_w ?_ h9
      have hm : s.2.getD j [] ∈ s.2 ∨ s.2.getD j [] = [] := by
        by_cases hj : j < s.2.length
        · left
          rw [List.getD_eq_getElem?_getD, List.getElem?_eq_getElem hj]
          exact List.getElem_mem hj
        · right
          rw [List.getD_eq_getElem?_getD, List.getElem?_eq_none (by omega)]
          rfl
      rcases hm with hm | hm
      · have := List.all_eq_true.mp (List.all_eq_true.mp h4 _ hm) _ (eGet_mem ea)
        exact of_decide_eq_true this
      · rw [hm] at ea
        cases ea
    · exact eG_w (show (1 : Nat) ≤ 2 by decide) h9
