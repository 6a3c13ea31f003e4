/-! that a run comes to a picture, by looking -/
def eEqO (a b : Option eV) : Bool := match a, b with
  | none, none => true
  | some p, some q => decide (p.1 = q.1) && decide (p.2 = q.2)
  | _, _ => false
def eEqB (x : Option (Option eV × eSt)) (y : Option (Option eV × eSt)) : Bool := match x, y with
  | some p, some q => eEqO p.1 q.1 && (decide (p.2.1 = q.2.1) && decide (p.2.2 = q.2.2))
  | _, _ => false
theorem eEqB_ok {x y : Option (Option eV × eSt)} (h : eEqB x y = true) : x = y := by
  cases x with
  | none => simp [eEqB] at h
  | some p =>
    cases y with
    | none => simp [eEqB] at h
    | some q =>
      obtain ⟨a, s1, s2⟩ := p
      obtain ⟨b, t1, t2⟩ := q
      simp only [eEqB, Bool.and_eq_true, decide_eq_true_eq] at h
      obtain ⟨h1, h2, h3⟩ := h
      subst h2; subst h3
      cases a with
      | none =>
        cases b with
        | none => rfl
        | some b => simp [eEqO] at h1
      | some a =>
        cases b with
        | none => simp [eEqO] at h1
        | some b =>
          obtain ⟨a1, a2⟩ := a
          obtain ⟨b1, b2⟩ := b
          simp only [eEqO, Bool.and_eq_true, decide_eq_true_eq] at h1
          obtain ⟨h4, h5⟩ := h1
          subst h4; subst h5
          rfl
theorem eAll_ok {n : Nat} {p : Nat → Bool} (h : (List.range n).all p = true) : ∀ a, a < n → p a = true := fun a ha => List.all_eq_true.mp h a (List.mem_range.mpr ha)
/-! the fresh objects, and what calls on them answer -/
def e0 : Nat → Int := fun _ => 0
def dfC : Nat → Nat → Nat := fun j i => eN (gC0 j i)
def dfM : Nat → Nat → Nat := fun j i => eN (gM0 j i)
def b0C : eSt := ([[(2, 0), (2, 0), (1, 1), (1, 0), (1, 0), (1, 0), (1, 0)], [(2, 0), (2, 0), (2, 0), (2, 0), (2, 0), (2, 0), (1, 0), (1, 0), (1, 0)], [(2, 0), (2, 0), (2, 0), (2, 0), (1, 0), (1, 0), (1, 0), (1, 0)], [(2, 0), (2, 0), (2, 0), (1, 0), (1, 15), (1, 1), (1, 0), (1, 0)], [(2, 0), (1, 0)], [(2, 0), (2, 0), (1, 0), (1, 0), (2, 0), (1, 0), (1, 0), (1, 0), (1, 0), (1, 0), (1, 0), (1, 0), (1, 0), (1, 0), (1, 0)], [(2, 0), (2, 0), (1, 0), (1, 0)], [(2, 0), (1, 0), (1, 0)], [(2, 0)], [], [], [], [], [], []],
  [[], [], [], [], [], [], [], [], [], [], [], [], [], [], []])
def s0C : eSt := ([[(2, 0), (2, 0), (1, 1), (1, 0), (1, 0), (1, 0), (1, 0)], [(2, 0), (2, 0), (2, 0), (2, 0), (2, 0), (2, 0), (1, 0), (1, 0), (1, 0)], [(2, 0), (2, 0), (2, 0), (2, 0), (1, 1536), (1, 0), (1, 0), (1, 0)], [(2, 0), (2, 0), (2, 0), (1, 0), (1, 15), (1, 1), (1, 0), (1, 0)], [(2, 0), (1, 0)], [(2, 0), (2, 0), (1, 0), (1, 0), (2, 0), (1, 0), (1, 0), (1, 0), (1, 0), (1, 0), (1, 0), (1, 0), (1, 0), (1, 0), (1, 0)], [(2, 0), (2, 0), (1, 0), (1, 0)], [(2, 0), (1, 0), (1, 0)], [(2, 0)], [], [], [], [], [], []],
  [[], [], [], [], [], [], [], [], [], [(192, (1, 32)), (84, (1, 1))], [], [], [], [], []])
theorem b0C_ok : eOk e0 dfC b0C fC0 gC0 := by
  obtain ⟨h1, h2⟩ := eCk_ok (c := e0) (s := b0C) (f := fC0) (by decide +kernel)
  refine ⟨h1, h2, fun j i => ?_⟩
  have e : b0C.2.getD j [] = [] := by
    unfold b0C
    rw [List.getD_eq_getElem?_getD]
    rcases Nat.lt_or_ge j 15 with h | h
    · have key : ∀ j, j < 15 → (([[], [], [], [], [], [], [], [], [], [], [], [], [], [], []] : List eL)[j]?).getD [] = [] := by decide +kernel
      exact key j h
    · rw [List.getElem?_eq_none (by simpa using h)]
      rfl
  rw [e]
  exact eG_n _
set_option maxRecDepth 1000000 in
theorem rC_init : eEv e0 e0 shC dfC pgC 1400 14 110 [(0, 0), (1, 1)] b0C = some (none, s0C) := eEqB_ok (by decide +kernel)
def b0M : eSt := ([[(1, 0), (2, 0), (2, 0), (2, 0), (2, 0), (2, 0), (1, 15), (1, 1), (1, 0), (1, 1), (1, 0), (1, 0), (1, 0), (1, 0), (1, 0), (1, 0), (1, 0), (1, 0), (1, 0), (1, 0), (1, 0), (1, 0), (1, 0), (1, 0), (1, 0), (1, 0), (1, 0), (1, 0), (1, 0), (1, 0), (1, 0), (1, 0), (1, 0), (2, 0), (2, 0), (1, 0), (1, 0), (1, 0), (1, 0)], [], [], [], [], [], [], []],
  [[], [], [], [], [], [], [], []])
def s0M : eSt := ([[(1, 0), (2, 0), (2, 0), (2, 0), (2, 0), (2, 0), (1, 15), (1, 1), (1, 0), (1, 1), (1, 0), (1, 0), (1, 1536), (1, 0), (1, 0), (1, 0), (1, 0), (1, 0), (1, 0), (1, 0), (1, 0), (1, 0), (1, 0), (1, 0), (1, 0), (1, 4294967295), (1, 0), (1, 0), (1, 0), (1, 0), (1, 0), (1, 0), (1, 0), (2, 0), (2, 0), (1, 0), (1, 0), (1, 0), (1, 0)], [], [], [], [], [], [], []],
  [[], [], [], [(84, (1, 1)), (192, (1, 32))], [], [], [], []])
theorem b0M_ok : eOk e0 dfM b0M fM0 gM0 := by
  obtain ⟨h1, h2⟩ := eCk_ok (c := e0) (s := b0M) (f := fM0) (by decide +kernel)
  refine ⟨h1, h2, fun j i => ?_⟩
  have e : b0M.2.getD j [] = [] := by
    unfold b0M
    rw [List.getD_eq_getElem?_getD]
    rcases Nat.lt_or_ge j 8 with h | h
    · have key : ∀ j, j < 8 → (([[], [], [], [], [], [], [], []] : List eL)[j]?).getD [] = [] := by decide +kernel
      exact key j h
    · rw [List.getElem?_eq_none (by simpa using h)]
      rfl
  rw [e]
  exact eG_n _
set_option maxRecDepth 1000000 in
theorem rM_init : eEv e0 e0 shM dfM pgM 1400 14 48 [(0, 0), (1, 1)] b0M = some (none, s0M) := eEqB_ok (by decide +kernel)
