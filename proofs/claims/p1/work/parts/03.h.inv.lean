/-! a world's lasting facts: ranges of scalars (number, lowest, highest) and of rows (place, length, lowest, highest), scalars that stay as they were, and a count -/
abbrev sT : Type := List (Nat × Int × Int)
abbrev aT : Type := List (Nat × Nat × Int × Int)
abbrev cT : Type := Int → Int → mFn → Prop
def gI (SL : sT) (AL : aT) (FL : List Nat) (cnt : cT) (n e : Int) (f0 f : mFn) (g : mGn) : Prop :=
  (∀ q ∈ SL, rg q.2.1 q.2.2 (f q.1)) ∧ (∀ q ∈ AL, ∀ i, i < q.2.1 → rg q.2.2.1 q.2.2.2 (g q.1 i)) ∧ (∀ k ∈ FL, f k = f0 k) ∧ cnt n e f
def gk0 (SL : sT) (FL CL : List Nat) (k : Nat) : Bool := SL.all (fun q => !(q.1 == k)) && FL.all (fun q => !(q == k)) && CL.all (fun q => !(q == k))
def gk1 (SL : sT) (FL CL : List Nat) (i k : Nat) (lo hi : Int) : Bool := (SL[i]? == some (k, lo, hi)) && (SL.eraseIdx i).all (fun q => !(q.1 == k)) && FL.all (fun q => !(q == k)) && CL.all (fun q => !(q == k))
def ga0 (AL : aT) (j : Nat) : Bool := AL.all (fun q => !(q.1 == j))
def ga1 (AL : aT) (i j n : Nat) (lo hi : Int) : Bool := (AL[i]? == some (j, n, lo, hi)) && (AL.eraseIdx i).all (fun q => !(q.1 == j))
theorem gI_s {SL : sT} {AL : aT} {FL : List Nat} {cnt : cT} {n e : Int} {f0 f : mFn} {g : mGn} (h : gI SL AL FL cnt n e f0 f g) (i k : Nat) (lo hi : Int) (hk : SL[i]? = some (k, lo, hi)) : rg lo hi (f k) := h.1 (k, lo, hi) (List.mem_of_getElem? hk)
theorem gI_g {SL : sT} {AL : aT} {FL : List Nat} {cnt : cT} {n e : Int} {f0 f : mFn} {g : mGn} (h : gI SL AL FL cnt n e f0 f g) (i j m : Nat) (lo hi : Int) (hk : AL[i]? = some (j, m, lo, hi)) {x : Int32} (hx : vp_in x m) : rg lo hi (g j x.toNatClampNeg) :=
  h.2.1 (j, m, lo, hi) (List.mem_of_getElem? hk) _ (Nat.not_le.mp fun z => hx (Or.inr z))
theorem ne_of_all {α : Type} {p : α → Nat} {l : List α} {k : Nat} (h : l.all (fun q => !(p q == k)) = true) {q : α} (hq : q ∈ l) : p q ≠ k := by
  have h1 := List.all_eq_true.mp h q hq
  simpa using h1
theorem gI_p0 {SL : sT} {AL : aT} {FL : List Nat} {cnt : cT} {CL : List Nat} {n e : Int} {f0 f : mFn} {g : mGn} (hc : ∀ (n e : Int) (f : mFn) (k : Nat) (v : Int32), k ∉ CL → cnt n e f → cnt n e (upd f k v)) (h : gI SL AL FL cnt n e f0 f g) {k : Nat} {v : Int32} (hk : gk0 SL FL CL k = true) : gI SL AL FL cnt n e f0 (upd f k v) g := by
  simp only [gk0, Bool.and_eq_true] at hk
  obtain ⟨⟨h1, h2⟩, h3⟩ := hk
  refine ⟨fun q hq => ?_, h.2.1, fun q hq => ?_, hc n e f k v (fun hq => ne_of_all (p := id) h3 hq rfl) h.2.2.2⟩
  · rw [pk_un (ne_of_all (p := fun q : Nat × Int × Int => q.1) h1 hq)]; exact h.1 q hq
  · rw [pk_un (show q ≠ k from ne_of_all (p := id) h2 hq)]; exact h.2.2.1 q hq
theorem gI_p1 {SL : sT} {AL : aT} {FL : List Nat} {cnt : cT} {CL : List Nat} {n e : Int} {f0 f : mFn} {g : mGn} (hc : ∀ (n e : Int) (f : mFn) (k : Nat) (v : Int32), k ∉ CL → cnt n e f → cnt n e (upd f k v)) (h : gI SL AL FL cnt n e f0 f g) {k : Nat} {v : Int32} (i : Nat) {lo hi : Int} (hv : rg lo hi v) (hk : gk1 SL FL CL i k lo hi = true) : gI SL AL FL cnt n e f0 (upd f k v) g := by
  simp only [gk1, Bool.and_eq_true, beq_iff_eq] at hk
  obtain ⟨⟨⟨h0, h1⟩, h2⟩, h3⟩ := hk
  refine ⟨fun q hq => ?_, h.2.1, fun q hq => ?_, hc n e f k v (fun hq => ne_of_all (p := id) h3 hq rfl) h.2.2.2⟩
  · by_cases e1 : q.1 = k
    · have hi : i < SL.length := (List.getElem?_eq_some_iff.mp h0).1
      obtain ⟨j, hj⟩ := List.getElem?_of_mem hq
      by_cases ej : j = i
      · subst ej
        rw [h0] at hj
        cases hj
        rw [pk_us]; exact hv
      · exfalso
        have hm : q ∈ SL.eraseIdx i := List.mem_eraseIdx_iff_getElem?.mpr ⟨j, ej, hj⟩
        exact ne_of_all (p := fun q : Nat × Int × Int => q.1) h1 hm e1
    · rw [pk_un e1]; exact h.1 q hq
  · rw [pk_un (show q ≠ k from ne_of_all (p := id) h2 hq)]; exact h.2.2.1 q hq
theorem mUp_s (g : mGn) (j : Nat) (y : Nat → Int32) : mUp g j y j = y := by simp [mUp]
theorem mUp_n (g : mGn) {j i : Nat} (y : Nat → Int32) (h : i ≠ j) : mUp g j y i = g i := by simp [mUp, h]
theorem gI_a0 {SL : sT} {AL : aT} {FL : List Nat} {cnt : cT} {n e : Int} {f0 f : mFn} {g : mGn} (h : gI SL AL FL cnt n e f0 f g) {j : Nat} {y : Nat → Int32} (hk : ga0 AL j = true) : gI SL AL FL cnt n e f0 f (mUp g j y) := by
  refine ⟨h.1, fun q hq i hi => ?_, h.2.2⟩
  rw [mUp_n g y (ne_of_all (p := fun q : Nat × Nat × Int × Int => q.1) hk hq)]
  exact h.2.1 q hq i hi
theorem gI_a1 {SL : sT} {AL : aT} {FL : List Nat} {cnt : cT} {n e : Int} {f0 f : mFn} {g : mGn} (h : gI SL AL FL cnt n e f0 f g) {j p : Nat} {v : Int32} (i m : Nat) {lo hi : Int} (hv : rg lo hi v) (hk : ga1 AL i j m lo hi = true) : gI SL AL FL cnt n e f0 f (mUp g j (upd (g j) p v)) := by
  simp only [ga1, Bool.and_eq_true, beq_iff_eq] at hk
  obtain ⟨h0, h1⟩ := hk
  refine ⟨h.1, fun q hq a ha => ?_, h.2.2⟩
  by_cases e1 : q.1 = j
  · obtain ⟨b, hb⟩ := List.getElem?_of_mem hq
    by_cases ej : b = i
    · subst ej
      rw [h0] at hb
      cases hb
      rw [mUp_s]
      by_cases ep : a = p
      · subst ep; rw [pk_us]; exact hv
      · rw [pk_un ep]; exact h.2.1 _ hq a ha
    · exfalso
      have hm : q ∈ AL.eraseIdx i := List.mem_eraseIdx_iff_getElem?.mpr ⟨b, ej, hb⟩
      exact ne_of_all (p := fun q : Nat × Nat × Int × Int => q.1) h1 hm e1
  · rw [mUp_n g _ e1]
    exact h.2.1 q hq a ha
/-- named locals, one by one -/
theorem mW0 {lv : mL} : ∀ q ∈ ([] : mL), mGet lv q.1 = some q.2 := fun _ h => absurd h List.not_mem_nil
theorem mWc {lv r : mL} {i : Nat} {v : mV} (h : mGet lv i = some v) (hr : ∀ q ∈ r, mGet lv q.1 = some q.2) : ∀ q ∈ (i, v) :: r, mGet lv q.1 = some q.2 := List.forall_mem_cons.mpr ⟨h, hr⟩
