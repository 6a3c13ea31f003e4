/-! a call of one side inside a bigger world: the rest of the world stays -/
section VRR
variable {p : Program} {l : Launch} {e : Env} {R : Room} {s : State} {m : MethodId} {args : Array Value} {below : List Frame} {meth : Method} {c : Code} {H : Heap} {locs : List Loc} {cells slots : Nat} {Q : State → Prop} {D : va_G} {cl : List vw_C} {ad : Nat → Nat} {tc : Nat → ClassId} {sh : mSh} {A : Nat → Prop} {H0 : Heap}
theorem vAd {f g f' g'} {i : Nat} {q : Nat × va_E} (h : (mW ad tc sh f' g')[i]? = some q) : ∃ q', (mW ad tc sh f g)[i]? = some q' ∧ q'.1 = q.1 := by
  unfold mW at h ⊢
  rw [mWr_get] at h ⊢
  cases hs : sh[i]? with
  | none => rw [hs] at h; cases h
  | some c =>
    rw [hs] at h
    cases h
    exact ⟨_, rfl, rfl⟩
theorem vApp2 {W1 W2 : va_W} {j : Nat} {q : Nat × va_E} (h : W2[j]? = some q) : (W1 ++ W2)[W1.length + j]? = some q := by
  rw [List.getElem?_append_right (Nat.le_add_right _ _), Nat.add_sub_cancel_left]; exact h
theorem vApp1 {W1 W2 : va_W} {i : Nat} {q : Nat × va_E} (h : W1[i]? = some q) : (W1 ++ W2)[i]? = some q := by
  have hi : i < W1.length := by
    rcases Nat.lt_or_ge i W1.length with z | z
    · exact z
    · rw [List.getElem?_eq_none z] at h; cases h
  rw [List.getElem?_append_left hi]; exact h
theorem vLen {W1 : va_W} {i : Nat} {q : Nat × va_E} (h : W1[i]? = some q) : i < W1.length := by
  rcases Nat.lt_or_ge i W1.length with z | z
  · exact z
  · rw [List.getElem?_eq_none z] at h; cases h
/-- two parts of a world don't share a place -/
theorem vApart {W1 W2 : va_W} (hD : va_D A (W1 ++ W2)) {i j : Nat} {q r : Nat × va_E} (hq : W1[i]? = some q) (hr : W2[j]? = some r) : q.1 ≠ r.1 := fun z => by
  have h := hD.1 i (W1.length + j) q r (vApp1 hq) (vApp2 hr) z
  have := vLen hq
  omega
theorem vRest {W2 : va_W} {f f' : mFn} {g g' : mGn} {H1 : Heap} (hP : va_P D cl (mW ad tc sh f g ++ W2) H) (hD : va_D A (mW ad tc sh f g ++ W2)) (hP1 : va_P D cl (mW ad tc sh f' g') H1) (hk : ∀ q : Nat, q < H.size → ¬ va_A (mW ad tc sh f g) H.size q → H1[q]? = H[q]?) :
    va_P D cl (mW ad tc sh f' g' ++ W2) H1 ∧ va_D A (mW ad tc sh f' g' ++ W2) := by
  have hP2 : va_P D cl W2 H := fun k q hq => hP _ q (vApp2 hq)
  refine ⟨hP1.app (hP2.kept fun k q hq => hk _ (vx_lt hP2 hq) ?_), va_D.app ⟨fun i j q r hq hr z => ?_, fun k q hq => ?_⟩ ⟨fun i j q r hq hr z => ?_, fun k q hq => hD.2 _ q (vApp2 hq)⟩ (fun i j q r hq hr => ?_)⟩
  · rintro (⟨i, e9, hi⟩ | h)
    · exact vApart hD hi hq rfl
    · exact absurd (vx_lt hP2 hq) (Nat.not_lt.mpr h)
  · obtain ⟨q', h1, e1⟩ := vAd (f := f) (g := g) hq
    obtain ⟨r', h2, e2⟩ := vAd (f := f) (g := g) hr
    exact hD.1 i j q' r' (vApp1 h1) (vApp1 h2) (by rw [e1, e2]; exact z)
  · obtain ⟨q', h1, e1⟩ := vAd (f := f) (g := g) hq
    rw [← e1]
    exact hD.2 _ q' (vApp1 h1)
  · have h := hD.1 _ _ q r (vApp2 hq) (vApp2 hr) z
    omega
  · obtain ⟨q', h1, e1⟩ := vAd (f := f) (g := g) hq
    rw [← e1]
    exact vApart hD h1 hr
end VRR
