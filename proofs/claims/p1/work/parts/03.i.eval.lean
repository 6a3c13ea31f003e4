/-! AN EVALUATOR over the small machine: it runs a method on a picture of a state, whose entries are numbers, one number that is told by its bounds alone (c + k), or any -/
abbrev eV : Type := Nat × Nat
abbrev eL : Type := List (Nat × eV)
abbrev eSt : Type := List (List eV) × List eL
abbrev eR : Type := Nat × eL × List eV × eSt
abbrev eCl : Type := List (Nat × Nat × Nat × Nat × Nat)
abbrev eMt : Type := mFt × eCl × List mBl × Nat × Option FieldType
def eN (x : Int32) : Nat := x.toBitVec.toNat
theorem eN_of (x : Int32) : Int32.ofNat (eN x) = x := by
  apply Int32.toBitVec_inj.mp
  show BitVec.ofNat 32 x.toBitVec.toNat = x.toBitVec
  rw [BitVec.ofNat_toNat, BitVec.setWidth_eq]
/-- (0, j): the object j; (1, n): the int n; (2, ..): an int; (t + 3, k): c t + k -/
def eG (c : Nat → Int) (a : eV) (v : mV) : Prop :=
  (a.1 = 0 ∧ v = .inr a.2) ∨ (a.1 = 1 ∧ v = .inl (Int32.ofNat a.2)) ∨ (3 ≤ a.1 ∧ ∃ x : Int32, v = .inl x ∧ x.toInt = c (a.1 - 3) + (a.2 : Int)) ∨ (a.1 = 2 ∧ ∃ x : Int32, v = .inl x)
theorem eG_int {c : Nat → Int} {a : eV} {v : mV} (h : eG c a v) (ha : 1 ≤ a.1) : ∃ x : Int32, v = .inl x := by
  rcases h with ⟨h, -⟩ | ⟨-, rfl⟩ | ⟨-, x, rfl, -⟩ | ⟨-, x, rfl⟩
  · omega
  · exact ⟨_, rfl⟩
  · exact ⟨_, rfl⟩
  · exact ⟨_, rfl⟩
theorem eG_1 {c : Nat → Int} {n : Nat} {v : mV} (h : eG c (1, n) v) : v = .inl (Int32.ofNat n) := by
  rcases h with ⟨h, -⟩ | ⟨-, h⟩ | ⟨h, -⟩ | ⟨h, -⟩
  · exact absurd (show (1 : Nat) = 0 from h) (by decide)
  · exact h
  · exact absurd (show (3 : Nat) ≤ 1 from h) (by decide)
  · exact absurd (show (1 : Nat) = 2 from h) (by decide)
theorem eG_0 {c : Nat → Int} {j : Nat} {v : mV} (h : eG c (0, j) v) : v = .inr j := by
  rcases h with ⟨-, h⟩ | ⟨h, -⟩ | ⟨h, -⟩ | ⟨h, -⟩
  · exact h
  · exact absurd (show (0 : Nat) = 1 from h) (by decide)
  · exact absurd (show (3 : Nat) ≤ 0 from h) (by decide)
  · exact absurd (show (0 : Nat) = 2 from h) (by decide)
theorem eG_3 {c : Nat → Int} {a : eV} {x : Int32} (h3 : 3 ≤ a.1) (h : eG c a (.inl x)) : x.toInt = c (a.1 - 3) + (a.2 : Int) := by
  rcases h with ⟨h, -⟩ | ⟨h, -⟩ | ⟨-, y, hy, h⟩ | ⟨h, -⟩
  · omega
  · omega
  · have e : x = y := Sum.inl.inj hy
    rw [e]
    exact h
  · omega
theorem eG_i {c : Nat → Int} {n : Nat} {x : Int32} (h : eG c (1, n) (.inl x)) : x = Int32.ofNat n := Sum.inl.inj (eG_1 h)
theorem eG_c {c : Nat → Int} (n : Nat) : eG c (1, n) (.inl (Int32.ofNat n)) := Or.inr (Or.inl ⟨rfl, rfl⟩)
theorem eG_n {c : Nat → Int} (x : Int32) : eG c (1, eN x) (.inl x) := Or.inr (Or.inl ⟨rfl, by rw [eN_of]⟩)
theorem eG_t {c : Nat → Int} (k : Nat) (x : Int32) : eG c (2, k) (.inl x) := Or.inr (Or.inr (Or.inr ⟨rfl, x, rfl⟩))
theorem eG_r {c : Nat → Int} (j : Nat) : eG c (0, j) (.inr j) := Or.inl ⟨rfl, rfl⟩
/-- of two numbers, else any -/
def eB (op : Int32 → Int32 → Int32) (a b : eV) : eV := if a.1 = 1 ∧ b.1 = 1 then (1, eN (op (Int32.ofNat a.2) (Int32.ofNat b.2))) else (2, 0)
theorem eB_ok {c : Nat → Int} {op : Int32 → Int32 → Int32} {a b : eV} {x y : Int32} (ha : eG c a (.inl x)) (hb : eG c b (.inl y)) : eG c (eB op a b) (.inl (op x y)) := by
  unfold eB
  split
  · next h =>
    obtain ⟨a1, a2⟩ := a
    obtain ⟨b1, b2⟩ := b
    obtain ⟨h1, h2⟩ := h
    dsimp only at h1 h2
    subst h1; subst h2
    have ea := eG_i ha
    have eb := eG_i hb
    subst ea; subst eb
    exact eG_n _
  · exact eG_t _ _
/-- the bounds of what is known by its bounds -/
def eBd (lo hi : Nat → Int) (c : Nat → Int) : Prop := ∀ t, lo t ≤ c t ∧ c t ≤ hi t
def eAdd (lo hi : Nat → Int) (a b : eV) : eV := if a.1 = 1 ∧ b.1 = 1 then (1, eN (Int32.ofNat a.2 + Int32.ofNat b.2)) else if 3 ≤ a.1 ∧ b.1 = 1 ∧ b.2 < 2147483648 ∧ -2147483648 ≤ lo (a.1 - 3) + (a.2 : Int) + (b.2 : Int) ∧ hi (a.1 - 3) + (a.2 : Int) + (b.2 : Int) < 2147483648 then (a.1, a.2 + b.2) else (2, 0)
theorem eAdd_ok {c : Nat → Int} {lo hi : Nat → Int} (hc : eBd lo hi c) {a b : eV} {x y : Int32} (ha : eG c a (.inl x)) (hb : eG c b (.inl y)) : eG c (eAdd lo hi a b) (.inl (x + y)) := by
  unfold eAdd
  split
  · next h =>
    obtain ⟨a1, a2⟩ := a
    obtain ⟨b1, b2⟩ := b
    obtain ⟨h1, h2⟩ := h
    dsimp only at h1 h2
    subst h1; subst h2
    have ea := eG_i ha
    have eb := eG_i hb
    subst ea; subst eb
    exact eG_n _
  · split
    · next h =>
      obtain ⟨h1, h2, h3, h4, h5⟩ := h
      have hx := eG_3 h1 ha
      obtain ⟨b1, b2⟩ := b
      dsimp only at h2 h3 h4 h5 ⊢
      subst h2
      have eb := eG_i hb
      subst eb
      refine Or.inr (Or.inr (Or.inl ⟨h1, _, rfl, ?_⟩))
      have e : (Int32.ofNat b2).toInt = (b2 : Int) := nI_toInt (n := b2) (by omega)
      have hb1 := hc (a.1 - 3)
      rw [Int32.toInt_add, hx, e]
      show (c (a.1 - 3) + (a.2 : Int) + (b2 : Int)).bmod (2 ^ 32) = c (a.1 - 3) + ((a.2 + b2 : Nat) : Int)
      rw [rg_bm (by omega) (by omega)]
      omega
    · exact eG_t _ _
def eSub (lo hi : Nat → Int) (a b : eV) : eV := if a.1 = 1 ∧ b.1 = 1 then (1, eN (Int32.ofNat a.2 - Int32.ofNat b.2)) else if 3 ≤ a.1 ∧ b.1 = a.1 ∧ b.2 ≤ a.2 ∧ a.2 < 2147483648 then (1, a.2 - b.2) else (2, 0)
theorem eSub_ok {c : Nat → Int} {lo hi : Nat → Int} (hc : eBd lo hi c) {a b : eV} {x y : Int32} (ha : eG c a (.inl x)) (hb : eG c b (.inl y)) : eG c (eSub lo hi a b) (.inl (x - y)) := by
  unfold eSub
  split
  · next h =>
    obtain ⟨a1, a2⟩ := a
    obtain ⟨b1, b2⟩ := b
    obtain ⟨h1, h2⟩ := h
    dsimp only at h1 h2
    subst h1; subst h2
    have ea := eG_i ha
    have eb := eG_i hb
    subst ea; subst eb
    exact eG_n _
  · split
    · next h =>
      obtain ⟨h1, h2, h3, h4⟩ := h
      have hx := eG_3 h1 ha
      have hy := eG_3 (by omega) hb
      rw [h2] at hy
      have e : (Int32.ofNat (a.2 - b.2)).toInt = ((a.2 - b.2 : Nat) : Int) := nI_toInt (n := a.2 - b.2) (by omega)
      refine Or.inr (Or.inl ⟨rfl, congrArg Sum.inl (Int32.toInt_inj.mp ?_)⟩)
      show (x - y).toInt = (Int32.ofNat (a.2 - b.2)).toInt
      rw [e, Int32.toInt_sub, hx, hy, show c (a.1 - 3) + (a.2 : Int) - (c (a.1 - 3) + (b.2 : Int)) = ((a.2 - b.2 : Nat) : Int) by omega]
      exact rg_bm (by omega) (by omega)
    · exact eG_t _ _
def eCd (cd : Jvm.ClassFile.Cond) (x y : Int32) : Bool := match cd with
  | .eq => decide (x = y)
  | .ne => !decide (x = y)
  | .lt => decide (x < y)
  | .ge => decide (y ≤ x)
  | .gt => decide (y < x)
  | .le => decide (x ≤ y)
theorem eCd_t {cd : Jvm.ClassFile.Cond} {x y : Int32} (h : eCd cd x y = true) : ¬ mCdF cd x y := by
  cases cd <;> simp_all [eCd, mCdF]
theorem eCd_f {cd : Jvm.ClassFile.Cond} {x y : Int32} (h : eCd cd x y = false) : ¬ mCdT cd x y := by
  cases cd <;> simp_all [eCd, mCdT]
/-- 1: yes, 0: no, 2: not known -/
def eC (lo hi : Nat → Int) (cd : Jvm.ClassFile.Cond) (a b : eV) : Nat := if a.1 = 1 ∧ b.1 = 1 then (if eCd cd (Int32.ofNat a.2) (Int32.ofNat b.2) = true then 1 else 0)
  else if 3 ≤ a.1 ∧ b.1 = 1 then (match cd with
    | .lt => if hi (a.1 - 3) + (a.2 : Int) < (Int32.ofNat b.2).toInt then 1 else if (Int32.ofNat b.2).toInt ≤ lo (a.1 - 3) + (a.2 : Int) then 0 else 2
    | .ge => if hi (a.1 - 3) + (a.2 : Int) < (Int32.ofNat b.2).toInt then 0 else if (Int32.ofNat b.2).toInt ≤ lo (a.1 - 3) + (a.2 : Int) then 1 else 2
    | .gt => if hi (a.1 - 3) + (a.2 : Int) ≤ (Int32.ofNat b.2).toInt then 0 else if (Int32.ofNat b.2).toInt < lo (a.1 - 3) + (a.2 : Int) then 1 else 2
    | .le => if hi (a.1 - 3) + (a.2 : Int) ≤ (Int32.ofNat b.2).toInt then 1 else if (Int32.ofNat b.2).toInt < lo (a.1 - 3) + (a.2 : Int) then 0 else 2
    | _ => 2) else 2
theorem eC_ok {c : Nat → Int} {lo hi : Nat → Int} (hc : eBd lo hi c) {cd : Jvm.ClassFile.Cond} {a b : eV} {x y : Int32} (ha : eG c a (.inl x)) (hb : eG c b (.inl y)) : (eC lo hi cd a b = 1 → ¬ mCdF cd x y) ∧ (eC lo hi cd a b = 0 → ¬ mCdT cd x y) := by
  unfold eC
  split
  · next h =>
    obtain ⟨a1, a2⟩ := a
    obtain ⟨b1, b2⟩ := b
    obtain ⟨h1, h2⟩ := h
    dsimp only at h1 h2
    subst h1; subst h2
    have ea := eG_i ha
    have eb := eG_i hb
    subst ea; subst eb
    split
    · next h3 => exact ⟨fun _ => eCd_t h3, fun h => absurd h (by decide)⟩
    · next h3 => exact ⟨fun h => absurd h (by decide), fun _ => eCd_f (by simpa using h3)⟩
  · split
    · next h =>
      obtain ⟨h1, h2⟩ := h
      have hx := eG_3 h1 ha
      obtain ⟨b1, b2⟩ := b
      dsimp only at h2 ⊢
      subst h2
      have eb := eG_i hb
      clear hb
      rw [← eb]
      have hb1 := hc (a.1 - 3)
      split
      · split
        · refine ⟨fun _ q => q ?_, fun h => absurd h (by decide)⟩
          rw [Int32.lt_iff_toInt_lt, hx]; omega
        · split
          · refine ⟨fun h => absurd h (by decide), fun _ q => ?_⟩
            have q : x < y := q
            rw [Int32.lt_iff_toInt_lt, hx] at q; omega
          · exact ⟨fun h => absurd h (by decide), fun h => absurd h (by decide)⟩
      · split
        · refine ⟨fun h => absurd h (by decide), fun _ q => ?_⟩
          have q : y ≤ x := q
          rw [Int32.le_iff_toInt_le, hx] at q; omega
        · split
          · refine ⟨fun _ q => q ?_, fun h => absurd h (by decide)⟩
            rw [Int32.le_iff_toInt_le, hx]; omega
          · exact ⟨fun h => absurd h (by decide), fun h => absurd h (by decide)⟩
      · split
        · refine ⟨fun h => absurd h (by decide), fun _ q => ?_⟩
          have q : y < x := q
          rw [Int32.lt_iff_toInt_lt, hx] at q; omega
        · split
          · refine ⟨fun _ q => q ?_, fun h => absurd h (by decide)⟩
            rw [Int32.lt_iff_toInt_lt, hx]; omega
          · exact ⟨fun h => absurd h (by decide), fun h => absurd h (by decide)⟩
      · split
        · refine ⟨fun _ q => q ?_, fun h => absurd h (by decide)⟩
          rw [Int32.le_iff_toInt_le, hx]; omega
        · split
          · refine ⟨fun h => absurd h (by decide), fun _ q => ?_⟩
            have q : x ≤ y := q
            rw [Int32.le_iff_toInt_le, hx] at q; omega
          · exact ⟨fun h => absurd h (by decide), fun h => absurd h (by decide)⟩
      · exact ⟨fun h => absurd h (by decide), fun h => absurd h (by decide)⟩
    · exact ⟨fun h => absurd h (by decide), fun h => absurd h (by decide)⟩
def eGet : eL → Nat → Option eV
  | [], _ => none
  | q :: r, i => if q.1 = i then some q.2 else eGet r i
def eDel (l : eL) (i : Nat) : eL := l.filter (fun q => !(q.1 == i))
def eSet (l : eL) (i : Nat) (a : eV) : eL := (i, a) :: eDel l i
theorem eGet_del {i k : Nat} (h : k ≠ i) : ∀ (l : eL), eGet (eDel l i) k = eGet l k
  | [] => rfl
  | q :: r => by
    have ih := eGet_del h r
    unfold eDel at ih ⊢
    by_cases hq : q.1 = i
    · rw [List.filter_cons_of_neg (by simp [hq]), ih]
      have hn : ¬ q.1 = k := fun z => h (z.symm.trans hq)
      simp [eGet, hn]
    · rw [List.filter_cons_of_pos (by simp [hq])]
      simp only [eGet]
      rw [ih]
theorem eGet_none (i : Nat) : ∀ (l : eL), eGet (eDel l i) i = none
  | [] => rfl
  | q :: r => by
    have ih := eGet_none i r
    unfold eDel at ih ⊢
    by_cases hq : q.1 = i
    · rw [List.filter_cons_of_neg (by simp [hq]), ih]
    · rw [List.filter_cons_of_pos (by simp [hq])]
      simp only [eGet]
      rw [if_neg hq, ih]
theorem mGet_del {i k : Nat} (h : k ≠ i) : ∀ (l : mL), mGet (l.filter (fun q => !(q.1 == i))) k = mGet l k
  | [] => rfl
  | q :: r => by
    have ih := mGet_del h r
    by_cases hq : q.1 = i
    · rw [List.filter_cons_of_neg (by simp [hq]), ih]
      have hn : ¬ q.1 = k := fun z => h (z.symm.trans hq)
      simp [mGet, hn]
    · rw [List.filter_cons_of_pos (by simp [hq])]
      simp only [mGet]
      rw [ih]
/-- the locals -/
def eLo (c : Nat → Int) (la : eL) (lv : mL) : Prop := ∀ i a, eGet la i = some a → ∃ v, mGet lv i = some v ∧ eG c a v
theorem eLo_set {c : Nat → Int} {la : eL} {lv : mL} (h : eLo c la lv) (i : Nat) {a : eV} {v : mV} (ha : eG c a v) : eLo c (eSet la i a) (mSet lv i v) := by
  intro k b hb
  unfold eSet at hb
  unfold mSet
  simp only [eGet] at hb
  simp only [mGet]
  by_cases hk : i = k
  · rw [if_pos hk] at hb ⊢
    cases hb
    exact ⟨v, rfl, ha⟩
  · rw [if_neg hk] at hb ⊢
    rw [eGet_del (Ne.symm hk)] at hb
    rw [mGet_del (Ne.symm hk)]
    exact h k b hb
/-- rows: what differs from the first numbers -/
def eRg (d : Nat → Nat) (r : eL) (i : Nat) : eV := match eGet r i with
  | some a => a
  | none => (1, d i)
def eRs (d : Nat → Nat) (r : eL) (i : Nat) (a : eV) : eL := if a = (1, d i) then eDel r i else eSet r i a
theorem eRs_s (d : Nat → Nat) (r : eL) (i : Nat) (a : eV) : eRg d (eRs d r i a) i = a := by
  by_cases h : a = (1, d i)
  · rw [show eRs d r i a = eDel r i from if_pos h]
    unfold eRg
    rw [eGet_none]
    exact h.symm
  · rw [show eRs d r i a = eSet r i a from if_neg h]
    unfold eRg eSet
    simp [eGet]
theorem eRs_n (d : Nat → Nat) (r : eL) {i k : Nat} (a : eV) (hk : k ≠ i) : eRg d (eRs d r i a) k = eRg d r k := by
  by_cases h : a = (1, d i)
  · rw [show eRs d r i a = eDel r i from if_pos h]
    unfold eRg
    rw [eGet_del hk]
  · rw [show eRs d r i a = eSet r i a from if_neg h]
    unfold eRg eSet
    simp only [eGet]
    rw [if_neg (Ne.symm hk), eGet_del hk]
theorem eGD_s {α : Type} {l : List α} {j : Nat} {x d : α} (h : j < l.length) : (l.set j x).getD j d = x := by
  rw [List.getD_eq_getElem?_getD, List.getElem?_set_self h]
  rfl
theorem eGD_n {α : Type} {l : List α} {j k : Nat} {x d : α} (h : k ≠ j) : (l.set j x).getD k d = l.getD k d := by
  rw [List.getD_eq_getElem?_getD, List.getElem?_set_ne (Ne.symm h), List.getD_eq_getElem?_getD]
theorem eGD_o {α : Type} {l : List α} {j : Nat} {d : α} (h : l.length ≤ j) : l.getD j d = d := by
  rw [List.getD_eq_getElem?_getD, List.getElem?_eq_none h]
  rfl
def eOk (c : Nat → Int) (df : Nat → Nat → Nat) (s : eSt) (f : mFn) (g : mGn) : Prop :=
  (∀ j, (s.1.getD j []).length ≤ 64) ∧ (∀ j k a, (s.1.getD j [])[k]? = some a → eG c a (.inl (f (64 * j + k)))) ∧ (∀ j i, eG c (eRg (df j) (s.2.getD j []) i) (.inl (g j i)))
theorem eOk_f {c : Nat → Int} {df : Nat → Nat → Nat} {s : eSt} {f : mFn} {g : mGn} (h : eOk c df s f g) {j k : Nat} (hk : k < 64) {a : eV} {v : Int32} (ha : eG c a (.inl v)) : eOk c df (s.1.set j ((s.1.getD j []).set k a), s.2) (upd f (64 * j + k) v) g := by
  obtain ⟨h1, h2, h3⟩ := h
  have key : ∀ j', ((s.1.set j ((s.1.getD j []).set k a)).getD j' [] = s.1.getD j' [] ∧ (j' ≠ j ∨ s.1.length ≤ j)) ∨ ((s.1.set j ((s.1.getD j []).set k a)).getD j' [] = (s.1.getD j []).set k a ∧ j' = j) := by
    intro j'
    by_cases hj : j' = j
    · subst hj
      by_cases hl : j' < s.1.length
      · right
        exact ⟨eGD_s hl, rfl⟩
      · left
        refine ⟨?_, Or.inr (by omega)⟩
        rw [eGD_o (by rw [List.length_set]; omega), eGD_o (by omega)]
    · left
      exact ⟨eGD_n hj, Or.inl hj⟩
  refine ⟨fun j' => ?_, fun j' k' a' hq => ?_, h3⟩
  · rcases key j' with ⟨e, -⟩ | ⟨e, rfl⟩
    · show ((s.1.set j ((s.1.getD j []).set k a)).getD j' []).length ≤ 64
      rw [e]; exact h1 j'
    · show ((s.1.set j' ((s.1.getD j' []).set k a)).getD j' []).length ≤ 64
      rw [e, List.length_set]; exact h1 j'
  · replace hq : ((s.1.set j ((s.1.getD j []).set k a)).getD j' [])[k']? = some a' := hq
    rcases key j' with ⟨e, hn⟩ | ⟨e, rfl⟩
    · rw [e] at hq
      have hk' : k' < 64 := Nat.lt_of_lt_of_le (List.getElem?_eq_some_iff.mp hq).1 (h1 j')
      have hne : 64 * j' + k' ≠ 64 * j + k := by
        rcases hn with hn | hn
        · omega
        · intro z
          have : j' = j := by omega
          subst this
          rw [eGD_o hn] at hq
          simp at hq
      rw [pk_un hne]
      exact h2 j' k' a' hq
    · rw [e] at hq
      by_cases hkk : k' = k
      · subst hkk
        have hl : k' < (s.1.getD j' []).length := by
          have := (List.getElem?_eq_some_iff.mp hq).1
          rwa [List.length_set] at this
        rw [List.getElem?_set_self hl] at hq
        cases hq
        rw [pk_us]
        exact ha
      · rw [List.getElem?_set_ne (Ne.symm hkk)] at hq
        rw [pk_un (by omega)]
        exact h2 j' k' a' hq
theorem eOk_g {c : Nat → Int} {df : Nat → Nat → Nat} {s : eSt} {f : mFn} {g : mGn} (h : eOk c df s f g) {j i : Nat} (hj : j < s.2.length) {a : eV} {v : Int32} (ha : eG c a (.inl v)) : eOk c df (s.1, s.2.set j (eRs (df j) (s.2.getD j []) i a)) f (mUp g j (upd (g j) i v)) := by
  obtain ⟨h1, h2, h3⟩ := h
  refine ⟨h1, h2, fun j' i' => ?_⟩
  show eG c (eRg (df j') ((s.2.set j (eRs (df j) (s.2.getD j []) i a)).getD j' []) i') _
  by_cases hjj : j' = j
  · subst hjj
    have e : (s.2.set j' (eRs (df j') (s.2.getD j' []) i a)).getD j' [] = eRs (df j') (s.2.getD j' []) i a := eGD_s hj
    rw [e, mUp_s]
    by_cases hi : i' = i
    · subst hi
      rw [eRs_s, pk_us]
      exact ha
    · rw [eRs_n _ _ _ hi, pk_un hi]
      exact h3 j' i'
  · have e : (s.2.set j (eRs (df j) (s.2.getD j []) i a)).getD j' [] = s.2.getD j' [] := eGD_n hjj
    rw [e, mUp_n _ _ hjj]
    exact h3 j' i'
/-- the stack -/
def eSk (c : Nat → Int) : List eV → List mV → Prop
  | [], [] => True
  | a :: r, v :: w => eG c a v ∧ eSk c r w
  | [], _ :: _ => False
  | _ :: _, [] => False
theorem eSk_1 {c : Nat → Int} {a : eV} {r : List eV} {v : mV} {w : List mV} (h : eSk c (a :: r) (v :: w)) : eG c a v ∧ eSk c r w := h
theorem eSk_c {c : Nat → Int} {a : eV} {r : List eV} {st : List mV} (h : eSk c (a :: r) st) : ∃ v w, st = v :: w ∧ eG c a v ∧ eSk c r w := by
  cases st with
  | nil => exact False.elim h
  | cons v w => exact ⟨v, w, rfl, (eSk_1 h).1, (eSk_1 h).2⟩
theorem eSk_n {c : Nat → Int} {st : List mV} (h : eSk c [] st) : st = [] := by
  cases st with
  | nil => rfl
  | cons v w => exact False.elim h
theorem eSk_len {c : Nat → Int} : ∀ {sa : List eV} {st : List mV}, eSk c sa st → st.length = sa.length
  | [], [], _ => rfl
  | a :: r, v :: w, h => by rw [List.length_cons, List.length_cons, eSk_len (eSk_1 h).2]
  | [], _ :: _, h => False.elim h
  | _ :: _, [], h => False.elim h
theorem eSk_drop {c : Nat → Int} : ∀ (n : Nat) {sa : List eV} {st : List mV}, eSk c sa st → eSk c (sa.drop n) (st.drop n)
  | 0, _, _, h => h
  | n + 1, [], [], _ => trivial
  | n + 1, a :: r, v :: w, h => eSk_drop n (eSk_1 h).2
  | _ + 1, [], _ :: _, h => False.elim h
  | _ + 1, _ :: _, [], h => False.elim h
theorem eSk_take {c : Nat → Int} : ∀ (n : Nat) {sa : List eV} {st : List mV}, eSk c sa st → eSk c (sa.take n) (st.take n)
  | 0, _, _, _ => trivial
  | n + 1, [], [], _ => trivial
  | n + 1, a :: r, v :: w, h => ⟨(eSk_1 h).1, eSk_take n (eSk_1 h).2⟩
  | _ + 1, [], _ :: _, h => False.elim h
  | _ + 1, _ :: _, [], h => False.elim h
theorem eSk_app {c : Nat → Int} : ∀ {s1 : List eV} {t1 : List mV} {s2 : List eV} {t2 : List mV}, eSk c s1 t1 → eSk c s2 t2 → eSk c (s1 ++ s2) (t1 ++ t2)
  | [], [], _, _, _, h => h
  | a :: r, v :: w, _, _, h, h2 => ⟨(eSk_1 h).1, eSk_app (eSk_1 h).2 h2⟩
  | [], _ :: _, _, _, h, _ => False.elim h
  | _ :: _, [], _, _, h, _ => False.elim h
theorem eSk_rev {c : Nat → Int} : ∀ {sa : List eV} {st : List mV}, eSk c sa st → eSk c sa.reverse st.reverse
  | [], [], _ => trivial
  | a :: r, v :: w, h => by
    rw [List.reverse_cons, List.reverse_cons]
    exact eSk_app (eSk_rev (eSk_1 h).2) ⟨(eSk_1 h).1, trivial⟩
  | [], _ :: _, h => False.elim h
  | _ :: _, [], h => False.elim h
def eI1 (st : List eV) (k : eV → List eV → Option eR) : Option eR := match st with
  | a :: r => if 1 ≤ a.1 then k a r else none
  | [] => none
def eI2 (st : List eV) (k : eV → eV → List eV → Option eR) : Option eR := match st with
  | b :: a :: r => if 1 ≤ a.1 ∧ 1 ≤ b.1 then k a b r else none
  | _ => none
def eI3 (st : List eV) (k : eV → eV → Nat → List eV → Option eR) : Option eR := match st with
  | v :: i :: o :: r => if 1 ≤ v.1 ∧ 1 ≤ i.1 ∧ o.1 = 0 then k v i o.2 r else none
  | _ => none
def eJ1 (tg : List (Nat × Int32)) (k : Nat → Option eR) : Option eR := match tg with
  | [q] => k q.1
  | _ => none
theorem eI1_inv {c : Nat → Int} {st : List eV} {vs : List mV} {k : eV → List eV → Option eR} {o : eR} (h : eI1 st k = some o) (hst : eSk c st vs) : ∃ a r x w, st = a :: r ∧ vs = .inl x :: w ∧ eG c a (.inl x) ∧ eSk c r w ∧ k a r = some o := by
  unfold eI1 at h
  split at h
  · next a r =>
    split at h
    · next ha =>
      obtain ⟨v, w, rfl, h1, h2⟩ := eSk_c hst
      obtain ⟨x, rfl⟩ := eG_int h1 ha
      exact ⟨a, r, x, w, rfl, rfl, h1, h2, h⟩
    · cases h
  · cases h
theorem eI2_inv {c : Nat → Int} {st : List eV} {vs : List mV} {k : eV → eV → List eV → Option eR} {o : eR} (h : eI2 st k = some o) (hst : eSk c st vs) : ∃ a b r x y w, st = b :: a :: r ∧ vs = .inl y :: .inl x :: w ∧ eG c a (.inl x) ∧ eG c b (.inl y) ∧ eSk c r w ∧ k a b r = some o := by
  unfold eI2 at h
  split at h
  · next b a r =>
    split at h
    · next ha =>
      obtain ⟨v, w, rfl, h1, h2⟩ := eSk_c hst
      obtain ⟨v2, w2, rfl, h3, h4⟩ := eSk_c h2
      obtain ⟨y, rfl⟩ := eG_int h1 ha.2
      obtain ⟨x, rfl⟩ := eG_int h3 ha.1
      exact ⟨a, b, r, x, y, w2, rfl, rfl, h3, h1, h4, h⟩
    · cases h
  · cases h
theorem eI3_inv {c : Nat → Int} {st : List eV} {vs : List mV} {k : eV → eV → Nat → List eV → Option eR} {o : eR} (h : eI3 st k = some o) (hst : eSk c st vs) : ∃ v i j r x y w, st = v :: i :: (0, j) :: r ∧ vs = .inl x :: .inl y :: .inr j :: w ∧ eG c v (.inl x) ∧ eG c i (.inl y) ∧ eSk c r w ∧ k v i j r = some o := by
  unfold eI3 at h
  split at h
  · next v i oo r =>
    split at h
    · next ha =>
      obtain ⟨v1, w, rfl, h1, h2⟩ := eSk_c hst
      obtain ⟨v2, w2, rfl, h3, h4⟩ := eSk_c h2
      obtain ⟨v3, w3, rfl, h5, h6⟩ := eSk_c h4
      obtain ⟨x, rfl⟩ := eG_int h1 ha.1
      obtain ⟨y, rfl⟩ := eG_int h3 ha.2.1
      obtain ⟨o1, o2⟩ := oo
      have e : o1 = 0 := ha.2.2
      subst e
      cases eG_0 h5
      exact ⟨v, i, o2, r, x, y, w3, rfl, rfl, h1, h3, h6, h⟩
    · cases h
  · cases h
theorem eJ1_inv {tg : List (Nat × Int32)} {k : Nat → Option eR} {o : eR} (h : eJ1 tg k = some o) : ∃ q, tg = [q] ∧ k q.1 = some o := by
  unfold eJ1 at h
  split at h
  · next q => exact ⟨q, rfl, h⟩
  · cases h
def eSw (x : Int32) : List (Nat × Int32) → Option Nat
  | [] => none
  | q :: r => match r with
    | [] => some q.1
    | _ :: _ => if x = q.2 then some q.1 else eSw x r
theorem eSw_ok {x : Int32} {k : Nat → Prop} {t : Nat} : ∀ {tg : List (Nat × Int32)}, eSw x tg = some t → k t → mTab x k tg
  | [], h, _ => by cases h
  | [q], h, hk => by
    cases h
    exact hk
  | q :: q2 :: r, h, hk => by
    unfold eSw at h
    dsimp only at h
    split at h
    · next e =>
      cases h
      exact ⟨fun _ => hk, fun z => absurd e z⟩
    · next e => exact ⟨fun z => absurd z e, fun _ => eSw_ok h hk⟩
/-- none of the keys lies within the bounds: the last place -/
def eSo (l h : Int) : List (Nat × Int32) → Option Nat
  | [] => none
  | q :: r => match r with
    | [] => some q.1
    | _ :: _ => if q.2.toInt < l ∨ h < q.2.toInt then eSo l h r else none
theorem eSo_ok {l h : Int} {x : Int32} (hx : l ≤ x.toInt ∧ x.toInt ≤ h) {k : Nat → Prop} {t : Nat} : ∀ {tg : List (Nat × Int32)}, eSo l h tg = some t → k t → mTab x k tg
  | [], e, _ => by cases e
  | [q], e, hk => by
    cases e
    exact hk
  | q :: q2 :: r, e, hk => by
    unfold eSo at e
    dsimp only at e
    split at e
    · next z =>
      have hn : ¬ x = q.2 := fun w => by
        subst w
        omega
      exact ⟨fun w => absurd w hn, fun _ => eSo_ok hx e hk⟩
    · cases e
def eTs (lo hi : Nat → Int) (a : eV) (tg : List (Nat × Int32)) : Option Nat := if a.1 = 1 then eSw (Int32.ofNat a.2) tg else if 3 ≤ a.1 then eSo (lo (a.1 - 3) + (a.2 : Int)) (hi (a.1 - 3) + (a.2 : Int)) tg else none
theorem eTs_ok {c : Nat → Int} {lo hi : Nat → Int} (hc : eBd lo hi c) {a : eV} {x : Int32} (ha : eG c a (.inl x)) {tg : List (Nat × Int32)} {t : Nat} (h : eTs lo hi a tg = some t) {k : Nat → Prop} (hk : k t) : mTab x k tg := by
  unfold eTs at h
  split at h
  · next h1 =>
    obtain ⟨a1, a2⟩ := a
    have e1 : a1 = 1 := h1
    subst e1
    have ea := eG_i ha
    subst ea
    exact eSw_ok h hk
  · split at h
    · next h3 =>
      have hx := eG_3 h3 ha
      have hb := hc (a.1 - 3)
      exact eSo_ok ⟨by omega, by omega⟩ h hk
    · cases h
def eRes (lv : eL) (r : List eV) (o : Option (Option eV × eSt)) : Option eR := match o with
  | some (some a, s) => some (0, lv, a :: r, s)
  | some (none, s) => some (0, lv, r, s)
  | none => none
/-- an instruction; the answer's number: 0 on, 1 back, t + 2 at t -/
def eOp (lo hi : Nat → Int) (sh : mSh) (df : Nat → Nat → Nat) (cv : Nat → List eV → eSt → Option (Option eV × eSt)) (Fd : mFt) (Cl : eCl) (i : Instr) (tg : List (Nat × Int32)) (cs : Int32) (z : Nat) (lv : eL) (st : List eV) (s : eSt) : Option eR := match i with
  | .iconst _ => some (0, lv, (1, eN cs) :: st, s)
  | .bipush _ => some (0, lv, (1, eN cs) :: st, s)
  | .sipush _ => some (0, lv, (1, eN cs) :: st, s)
  | .ldc _ => some (0, lv, (1, eN cs) :: st, s)
  | .ldc_w _ => some (0, lv, (1, eN cs) :: st, s)
  | .iload_n k => (match eGet lv k with | some a => if 1 ≤ a.1 then some (0, lv, a :: st, s) else none | none => none)
  | .iload k => (match eGet lv k with | some a => if 1 ≤ a.1 then some (0, lv, a :: st, s) else none | none => none)
  | .aload_n k => (match eGet lv k with | some a => if a.1 = 0 then some (0, lv, a :: st, s) else none | none => none)
  | .aload k => (match eGet lv k with | some a => if a.1 = 0 then some (0, lv, a :: st, s) else none | none => none)
  | .istore_n k => eI1 st fun a r => some (0, eSet lv k a, r, s)
  | .istore k => eI1 st fun a r => some (0, eSet lv k a, r, s)
  | .astore_n k => (match st with | a :: r => if a.1 = 0 then some (0, eSet lv k a, r, s) else none | [] => none)
  | .astore k => (match st with | a :: r => if a.1 = 0 then some (0, eSet lv k a, r, s) else none | [] => none)
  | .iinc k _ => (match eGet lv k with | some a => if 1 ≤ a.1 then some (0, eSet lv k (eAdd lo hi a (1, eN cs)), st, s) else none | none => none)
  | .iadd => eI2 st fun a b r => some (0, lv, eAdd lo hi a b :: r, s)
  | .isub => eI2 st fun a b r => some (0, lv, eSub lo hi a b :: r, s)
  | .imul => eI2 st fun a b r => some (0, lv, eB (fun a b => a * b) a b :: r, s)
  | .iand => eI2 st fun a b r => some (0, lv, eB (fun a b => a &&& b) a b :: r, s)
  | .ior => eI2 st fun a b r => some (0, lv, eB (fun a b => a ||| b) a b :: r, s)
  | .ixor => eI2 st fun a b r => some (0, lv, eB (fun a b => a ^^^ b) a b :: r, s)
  | .ishl => eI2 st fun a b r => some (0, lv, eB (fun a b => a <<< (b &&& 31)) a b :: r, s)
  | .ishr => eI2 st fun a b r => some (0, lv, eB (fun a b => a >>> (b &&& 31)) a b :: r, s)
  | .iushr => eI2 st fun a b r => some (0, lv, eB (fun a b => (a.toUInt32 >>> (b.toUInt32 &&& Int32.toUInt32 31)).toInt32) a b :: r, s)
  | .irem => eI2 st fun a b r => if b.1 = 1 ∧ ¬ Int32.ofNat b.2 = 0 then some (0, lv, eB (fun a b => a - a / b * b) a b :: r, s) else none
  | .ineg => eI1 st fun a r => some (0, lv, eB (fun a _ => -a) a (1, 0) :: r, s)
  | .pop => (match st with | _ :: r => some (0, lv, r, s) | [] => none)
  | .dup => (match st with | v :: r => some (0, lv, v :: v :: r, s) | [] => none)
  | .dup2 => (match st with | v :: w :: r => some (0, lv, v :: w :: v :: w :: r, s) | _ => none)
  | .dup_x1 => (match st with | v :: w :: r => some (0, lv, v :: w :: v :: r, s) | _ => none)
  | .goto _ => eJ1 tg fun t => some (t + 2, lv, st, s)
  | .ifCond c _ => eI1 st fun a r => eJ1 tg fun t => if eC lo hi c a (1, 0) = 1 then some (t + 2, lv, r, s) else if eC lo hi c a (1, 0) = 0 then some (0, lv, r, s) else none
  | .if_icmp c _ => eI2 st fun a b r => eJ1 tg fun t => if eC lo hi c a b = 1 then some (t + 2, lv, r, s) else if eC lo hi c a b = 0 then some (0, lv, r, s) else none
  | .tableswitch _ _ _ _ => eI1 st fun a r => (match eTs lo hi a tg with | some t => some (t + 2, lv, r, s) | none => none)
  | .lookupswitch _ _ => eI1 st fun a r => (match eTs lo hi a tg with | some t => some (t + 2, lv, r, s) | none => none)
  | .getfield _ => (match st with
    | o :: r => if o.1 = 0 then (match Fd[z]? with
      | some q => (match sh[o.2]? with
        | some (.inl w) => if w.1 = q.2.1 then (match w.2[q.2.2.1]? with
          | some (some j) => some (0, lv, (0, j) :: r, s)
          | some none => (match (s.1.getD o.2 [])[q.2.2.1]? with | some a => some (0, lv, a :: r, s) | none => none)
          | none => none) else none
        | _ => none)
      | none => none) else none
    | [] => none)
  | .putfield _ => (match st with
    | v :: o :: r => if 1 ≤ v.1 ∧ o.1 = 0 then (match Fd[z]? with
      | some q => (match sh[o.2]? with
        | some (.inl w) => if w.1 = q.2.1 ∧ w.2[q.2.2.1]? = some none ∧ q.2.2.1 < 64 ∧ (q.2.2.2 = 1 ∨ (q.2.2.2 = 2 ∧ (v = (1, 0) ∨ v = (1, 1)))) then some (0, lv, r, (s.1.set o.2 ((s.1.getD o.2 []).set q.2.2.1 v), s.2)) else none
        | _ => none)
      | none => none) else none
    | _ => none)
  | .iaload => (match st with
    | k :: o :: r => if k.1 = 1 ∧ o.1 = 0 then (match sh[o.2]? with
      | some (.inr w) => if w.1 = 0 ∧ k.2 < w.2 ∧ w.2 < 2147483648 then some (0, lv, eRg (df o.2) (s.2.getD o.2 []) k.2 :: r, s) else none
      | _ => none) else none
    | _ => none)
  | .baload => (match st with
    | k :: o :: r => if k.1 = 1 ∧ o.1 = 0 then (match sh[o.2]? with
      | some (.inr w) => if w.1 = 1 ∧ k.2 < w.2 ∧ w.2 < 2147483648 then some (0, lv, eRg (df o.2) (s.2.getD o.2 []) k.2 :: r, s) else none
      | _ => none) else none
    | _ => none)
  | .iastore => eI3 st fun v k j r => if k.1 = 1 ∧ j < s.2.length ∧ (s.2.getD j []).length < 5000 then (match sh[j]? with
      | some (.inr w) => if w.1 = 0 ∧ k.2 < w.2 ∧ w.2 < 2147483648 then some (0, lv, r, (s.1, s.2.set j (eRs (df j) (s.2.getD j []) k.2 v))) else none
      | _ => none) else none
  | .bastore => eI3 st fun v k j r => if k.1 = 1 ∧ j < s.2.length ∧ (s.2.getD j []).length < 5000 then (match sh[j]? with
      | some (.inr w) => if w.1 = 1 ∧ k.2 < w.2 ∧ w.2 < 2147483648 then some (0, lv, r, (s.1, s.2.set j (eRs (df j) (s.2.getD j []) k.2 (eB (fun a _ => a &&& 1) v (1, 0))))) else none
      | _ => none) else none
  | .arraylength => (match st with
    | o :: r => if o.1 = 0 then (match sh[o.2]? with
      | some (.inr w) => if w.1 = 0 then some (0, lv, (1, w.2) :: r, s) else none
      | _ => none) else none
    | [] => none)
  | .invokevirtual _ => (match Cl[z]? with
    | some q => (match st.drop q.2.2.1 with
      | o :: r => if o.1 = 0 then (match sh[o.2]? with
        | some (.inl w) => if w.1 = q.2.2.2.1 ∧ r.length ≤ 8 then eRes lv r (cv q.2.2.2.2 (o :: (st.take q.2.2.1).reverse) s) else none
        | _ => none) else none
      | [] => none)
    | none => none)
  | .invokestatic _ => (match Cl[z]? with
    | some q => if q.2.2.1 ≤ st.length ∧ (st.drop q.2.2.1).length ≤ 8 then eRes lv (st.drop q.2.2.1) (cv q.2.2.2.2 (st.take q.2.2.1).reverse s) else none
    | none => none)
  | .ireturn => (match st with | [a] => if 1 ≤ a.1 then some (1, lv, st, s) else none | _ => none)
  | .return_ => (match st with | [] => some (1, lv, st, s) | _ => none)
  | _ => none
def eMc (sps : Nat → mSp) (Cl : eCl) : mCt := Cl.map (fun q => (q.1, q.2.1, q.2.2.1, q.2.2.2.1, sps q.2.2.2.2))
theorem eMc_at {sps : Nat → mSp} {Cl : eCl} {z : Nat} {q : Nat × Nat × Nat × Nat × Nat} (h : Cl[z]? = some q) : (eMc sps Cl)[z]? = some (q.1, q.2.1, q.2.2.1, q.2.2.2.1, sps q.2.2.2.2) := by
  unfold eMc
  rw [List.getElem?_map, h]
  rfl
/-- an answer -/
def eRv (c : Nat → Int) (a : Option eV) (r : Option mV) : Prop := match a, r with
  | none, none => True
  | some a, some v => eG c a v
  | _, _ => False
/-- calls do what is told of them -/
def eCv (c : Nat → Int) (df : Nat → Nat → Nat) (sps : Nat → mSp) (cv : Nat → List eV → eSt → Option (Option eV × eSt)) : Prop :=
  ∀ (id : Nat) (sa : List eV) (s : eSt) (r : Option eV) (s' : eSt), cv id sa s = some (r, s') → ∀ (av : List mV) (f : mFn) (g : mGn) (K : mKr), eSk c sa av → eOk c df s f g → (∀ (v : Option mV) (f' : mFn) (g' : mGn), eRv c r v → eOk c df s' f' g' → K v f' g') → sps id av f g K
def eNx (kn : mL → List mV → mFn → mGn → Prop) (kj : Nat → mL → List mV → mFn → mGn → Prop) (kr : mKr) (n : Nat) (lv : mL) (st : List mV) (f : mFn) (g : mGn) : Prop := match n with
  | 0 => kn lv st f g
  | 1 => ∀ r, ((st = [] ∧ r = none) ∨ ∃ x : Int32, st = [.inl x] ∧ r = some (.inl x)) → kr r f g
  | t + 2 => kj t lv st f g
theorem eRes_ok {c : Nat → Int} {df : Nat → Nat → Nat} {sps : Nat → mSp} {cv : Nat → List eV → eSt → Option (Option eV × eSt)} (hcv : eCv c df sps cv) {la : eL} {r : List eV} {id : Nat} {sa : List eV} {s : eSt} {o : eR} (h : eRes la r (cv id sa s) = some o)
    {lv : mL} {w av : List mV} {f : mFn} {g : mGn} (hlv : eLo c la lv) (hr : eSk c r w) (ha : eSk c sa av) (hs : eOk c df s f g) {kn : mL → List mV → mFn → mGn → Prop} {kj : Nat → mL → List mV → mFn → mGn → Prop} {kr : mKr}
    (hk : ∀ lv' st' f' g', eLo c o.2.1 lv' → eSk c o.2.2.1 st' → eOk c df o.2.2.2 f' g' → eNx kn kj kr o.1 lv' st' f' g') : sps id av f g (fun v f' g' => kn lv (mPush v w) f' g') := by
  unfold eRes at h
  split at h
  · next a s' e =>
    cases h
    refine hcv _ _ _ _ _ e av f g _ ha hs (fun v f' g' hv hs' => ?_)
    cases v with
    | none => exact False.elim hv
    | some v => exact hk lv (v :: w) f' g' hlv ⟨hv, hr⟩ hs'
  · next s' e =>
    cases h
    refine hcv _ _ _ _ _ e av f g _ ha hs (fun v f' g' hv hs' => ?_)
    cases v with
    | none => exact hk lv w f' g' hlv hr hs'
    | some v => exact False.elim hv
  · cases h
theorem eIn {c : Nat → Int} {k n : Nat} {y : Int32} (h : eG c (1, k) (.inl y)) (h1 : k < n) (h2 : n < 2147483648) : vp_in y n ∧ y.toNatClampNeg = k := by
  have e := eG_i h
  subst e
  exact ⟨vp_in_nI h1 (by omega), nI_clamp (by omega)⟩
set_option maxHeartbeats 4000000 in
theorem eOp_ok {c : Nat → Int} {lo hi : Nat → Int} (hbd : eBd lo hi c) {sh : mSh} {df : Nat → Nat → Nat} {sps : Nat → mSp} {cv : Nat → List eV → eSt → Option (Option eV × eSt)} (hcv : eCv c df sps cv) {Fd : mFt} {Cl : eCl} {i : Instr} {tg : List (Nat × Int32)} {cs : Int32} {z : Nat} {la : eL} {sa : List eV} {s : eSt} {o : eR}
    (h : eOp lo hi sh df cv Fd Cl i tg cs z la sa s = some o) {lv : mL} {st : List mV} {f : mFn} {g : mGn} (hlv : eLo c la lv) (hst : eSk c sa st) (hs : eOk c df s f g) {kn : mL → List mV → mFn → mGn → Prop} {kj : Nat → mL → List mV → mFn → mGn → Prop} {kr : mKr}
    (hk : ∀ lv' st' f' g', eLo c o.2.1 lv' → eSk c o.2.2.1 st' → eOk c df o.2.2.2 f' g' → eNx kn kj kr o.1 lv' st' f' g') : mS sh Fd (eMc sps Cl) kn kj kr i tg cs z lv st f g := by
  unfold eOp at h
  split at h
  · cases h
    exact hk lv (.inl cs :: st) f g hlv ⟨eG_n cs, hst⟩ hs
  · cases h
    exact hk lv (.inl cs :: st) f g hlv ⟨eG_n cs, hst⟩ hs
  · cases h
    exact hk lv (.inl cs :: st) f g hlv ⟨eG_n cs, hst⟩ hs
  · cases h
    exact hk lv (.inl cs :: st) f g hlv ⟨eG_n cs, hst⟩ hs
  · cases h
    exact hk lv (.inl cs :: st) f g hlv ⟨eG_n cs, hst⟩ hs
  · split at h
    · next a e =>
      split at h
      · next ha =>
        cases h
        obtain ⟨v, hv, hg⟩ := hlv _ _ e
        obtain ⟨x, rfl⟩ := eG_int hg ha
        show mLd lv _ _
        unfold mLd
        rw [hv]
        exact hk lv (.inl x :: st) f g hlv ⟨hg, hst⟩ hs
      · cases h
    · cases h
  · split at h
    · next a e =>
      split at h
      · next ha =>
        cases h
        obtain ⟨v, hv, hg⟩ := hlv _ _ e
        obtain ⟨x, rfl⟩ := eG_int hg ha
        show mLd lv _ _
        unfold mLd
        rw [hv]
        exact hk lv (.inl x :: st) f g hlv ⟨hg, hst⟩ hs
      · cases h
    · cases h
  · split at h
    · next a e =>
      split at h
      · next ha =>
        cases h
        obtain ⟨v, hv, hg⟩ := hlv _ _ e
        obtain ⟨a1, a2⟩ := a
        have e1 : a1 = 0 := ha
        subst e1
        cases eG_0 hg
        show mLr lv _ _
        unfold mLr
        rw [hv]
        exact hk lv (.inr a2 :: st) f g hlv ⟨hg, hst⟩ hs
      · cases h
    · cases h
  · split at h
    · next a e =>
      split at h
      · next ha =>
        cases h
        obtain ⟨v, hv, hg⟩ := hlv _ _ e
        obtain ⟨a1, a2⟩ := a
        have e1 : a1 = 0 := ha
        subst e1
        cases eG_0 hg
        show mLr lv _ _
        unfold mLr
        rw [hv]
        exact hk lv (.inr a2 :: st) f g hlv ⟨hg, hst⟩ hs
      · cases h
    · cases h
  · obtain ⟨a, r, x, w, rfl, rfl, ha, hr, h⟩ := eI1_inv h hst
    cases h
    exact hk _ w f g (eLo_set hlv _ ha) hr hs
  · obtain ⟨a, r, x, w, rfl, rfl, ha, hr, h⟩ := eI1_inv h hst
    cases h
    exact hk _ w f g (eLo_set hlv _ ha) hr hs
  · split at h
    · next a r =>
      split at h
      · next ha =>
        cases h
        obtain ⟨v, w, rfl, h1, h2⟩ := eSk_c hst
        obtain ⟨a1, a2⟩ := a
        have e1 : a1 = 0 := ha
        subst e1
        cases eG_0 h1
        exact hk _ w f g (eLo_set hlv _ h1) h2 hs
      · cases h
    · cases h
  · split at h
    · next a r =>
      split at h
      · next ha =>
        cases h
        obtain ⟨v, w, rfl, h1, h2⟩ := eSk_c hst
        obtain ⟨a1, a2⟩ := a
        have e1 : a1 = 0 := ha
        subst e1
        cases eG_0 h1
        exact hk _ w f g (eLo_set hlv _ h1) h2 hs
      · cases h
    · cases h
  · split at h
    · next a e =>
      split at h
      · next ha =>
        cases h
        obtain ⟨v, hv, hg⟩ := hlv _ _ e
        obtain ⟨x, rfl⟩ := eG_int hg ha
        show mLd lv _ _
        unfold mLd
        rw [hv]
        exact hk _ st f g (eLo_set hlv _ (eAdd_ok hbd hg (eG_n cs))) hst hs
      · cases h
    · cases h
  · obtain ⟨a, b, r, x, y, w, rfl, rfl, ha, hb, hr, h⟩ := eI2_inv h hst
    cases h
    exact hk lv (.inl (x + y) :: w) f g hlv ⟨eAdd_ok hbd ha hb, hr⟩ hs
  · obtain ⟨a, b, r, x, y, w, rfl, rfl, ha, hb, hr, h⟩ := eI2_inv h hst
    cases h
    exact hk lv (.inl (x - y) :: w) f g hlv ⟨eSub_ok hbd ha hb, hr⟩ hs
  · obtain ⟨a, b, r, x, y, w, rfl, rfl, ha, hb, hr, h⟩ := eI2_inv h hst
    cases h
    exact hk lv (.inl (x * y) :: w) f g hlv ⟨eB_ok (op := fun a b => a * b) ha hb, hr⟩ hs
  · obtain ⟨a, b, r, x, y, w, rfl, rfl, ha, hb, hr, h⟩ := eI2_inv h hst
    cases h
    exact hk lv (.inl (x &&& y) :: w) f g hlv ⟨eB_ok (op := fun a b => a &&& b) ha hb, hr⟩ hs
  · obtain ⟨a, b, r, x, y, w, rfl, rfl, ha, hb, hr, h⟩ := eI2_inv h hst
    cases h
    exact hk lv (.inl (x ||| y) :: w) f g hlv ⟨eB_ok (op := fun a b => a ||| b) ha hb, hr⟩ hs
  · obtain ⟨a, b, r, x, y, w, rfl, rfl, ha, hb, hr, h⟩ := eI2_inv h hst
    cases h
    exact hk lv (.inl (x ^^^ y) :: w) f g hlv ⟨eB_ok (op := fun a b => a ^^^ b) ha hb, hr⟩ hs
  · obtain ⟨a, b, r, x, y, w, rfl, rfl, ha, hb, hr, h⟩ := eI2_inv h hst
    cases h
    exact hk lv (.inl (x <<< (y &&& 31)) :: w) f g hlv ⟨eB_ok (op := fun a b => a <<< (b &&& 31)) ha hb, hr⟩ hs
  · obtain ⟨a, b, r, x, y, w, rfl, rfl, ha, hb, hr, h⟩ := eI2_inv h hst
    cases h
    exact hk lv (.inl (x >>> (y &&& 31)) :: w) f g hlv ⟨eB_ok (op := fun a b => a >>> (b &&& 31)) ha hb, hr⟩ hs
  · obtain ⟨a, b, r, x, y, w, rfl, rfl, ha, hb, hr, h⟩ := eI2_inv h hst
    cases h
    exact hk lv (.inl ((x.toUInt32 >>> (y.toUInt32 &&& Int32.toUInt32 31)).toInt32) :: w) f g hlv ⟨eB_ok (op := fun a b => (a.toUInt32 >>> (b.toUInt32 &&& Int32.toUInt32 31)).toInt32) ha hb, hr⟩ hs
  · obtain ⟨a, b, r, x, y, w, rfl, rfl, ha, hb, hr, h⟩ := eI2_inv h hst
    try dsimp only at h
    split at h
    · next hz =>
      cases h
      obtain ⟨b1, b2⟩ := b
      have e1 : b1 = 1 := hz.1
      subst e1
      have ey := eG_i hb
      refine ⟨fun q => hz.2 (show Int32.ofNat b2 = 0 from ey.symm.trans q), hk lv (.inl (x - x / y * y) :: w) f g hlv ⟨eB_ok (op := fun a b => a - a / b * b) ha hb, hr⟩ hs⟩
    · cases h
  · obtain ⟨a, r, x, w, rfl, rfl, ha, hr, h⟩ := eI1_inv h hst
    cases h
    exact hk lv (.inl (-x) :: w) f g hlv ⟨eB_ok (op := fun a _ => -a) ha (eG_c 0), hr⟩ hs
  · split at h
    · next a r =>
      cases h
      obtain ⟨v, w, rfl, h1, h2⟩ := eSk_c hst
      exact hk lv w f g hlv h2 hs
    · cases h
  · split at h
    · next a r =>
      cases h
      obtain ⟨v, w, rfl, h1, h2⟩ := eSk_c hst
      exact hk lv (v :: v :: w) f g hlv ⟨h1, h1, h2⟩ hs
    · cases h
  · split at h
    · next a b r =>
      cases h
      obtain ⟨v, w, rfl, h1, h2⟩ := eSk_c hst
      obtain ⟨v2, w2, rfl, h3, h4⟩ := eSk_c h2
      exact hk lv (v :: v2 :: v :: v2 :: w2) f g hlv ⟨h1, h3, h1, h3, h4⟩ hs
    · cases h
  · split at h
    · next a b r =>
      cases h
      obtain ⟨v, w, rfl, h1, h2⟩ := eSk_c hst
      obtain ⟨v2, w2, rfl, h3, h4⟩ := eSk_c h2
      exact hk lv (v :: v2 :: v :: w2) f g hlv ⟨h1, h3, h1, h4⟩ hs
    · cases h
  · obtain ⟨q, rfl, h⟩ := eJ1_inv h
    cases h
    exact hk lv st f g hlv hst hs
  · obtain ⟨a, r, x, w, rfl, rfl, ha, hr, h⟩ := eI1_inv h hst
    obtain ⟨q, rfl, h⟩ := eJ1_inv h
    have hC := fun cd => eC_ok hbd (cd := cd) ha (eG_c (c := c) 0)
    split at h
    · next e =>
      cases h
      exact ⟨fun _ => hk lv w f g hlv hr hs, fun zz => absurd zz ((hC _).1 e)⟩
    · split at h
      · next e =>
        cases h
        exact ⟨fun zz => absurd zz ((hC _).2 e), fun _ => hk lv w f g hlv hr hs⟩
      · cases h
  · obtain ⟨a, b, r, x, y, w, rfl, rfl, ha, hb, hr, h⟩ := eI2_inv h hst
    obtain ⟨q, rfl, h⟩ := eJ1_inv h
    have hC := fun cd => eC_ok hbd (cd := cd) ha hb
    split at h
    · next e =>
      cases h
      exact ⟨fun _ => hk lv w f g hlv hr hs, fun zz => absurd zz ((hC _).1 e)⟩
    · split at h
      · next e =>
        cases h
        exact ⟨fun zz => absurd zz ((hC _).2 e), fun _ => hk lv w f g hlv hr hs⟩
      · cases h
  · obtain ⟨a, r, x, w, rfl, rfl, ha, hr, h⟩ := eI1_inv h hst
    try dsimp only at h
    split at h
    · next t et =>
      cases h
      exact eTs_ok hbd ha et (hk lv w f g hlv hr hs)
    · cases h
  · obtain ⟨a, r, x, w, rfl, rfl, ha, hr, h⟩ := eI1_inv h hst
    try dsimp only at h
    split at h
    · next t et =>
      cases h
      exact eTs_ok hbd ha et (hk lv w f g hlv hr hs)
    · cases h
  · -- getfield
    split at h
    · next oo r =>
      split at h
      · next ho =>
        split at h
        · next q eq =>
          split at h
          · next w ew =>
            split at h
            · next hw =>
              obtain ⟨v, vs, rfl, h1, h2⟩ := eSk_c hst
              obtain ⟨o1, o2⟩ := oo
              have e1 : o1 = 0 := ho
              subst e1
              cases eG_0 h1
              have key : ∀ q' : Option Nat, w.2[q.2.2.1]? = some q' → (match q' with | none => kn lv (.inl (f (64 * o2 + q.2.2.1)) :: vs) f g | some j' => kn lv (.inr j' :: vs) f g) → mGf Fd z (fun ci k _ => mSc sh o2 ci k fun q => (match q with | none => kn lv (.inl (f (64 * o2 + k)) :: vs) f g | some j' => kn lv (.inr j' :: vs) f g)) := by
                intro q' hq' hh
                unfold mGf
                rw [eq]
                dsimp only
                unfold mSc
                rw [ew]
                dsimp only
                rw [if_pos hw, hq']
                exact hh
              split at h
              · next j e =>
                cases h
                exact key _ e (hk lv (.inr j :: vs) f g hlv ⟨eG_r j, h2⟩ hs)
              · next e =>
                split at h
                · next a ea =>
                  cases h
                  exact key _ e (hk lv (.inl (f (64 * o2 + q.2.2.1)) :: vs) f g hlv ⟨hs.2.1 _ _ _ ea, h2⟩ hs)
                · cases h
              · cases h
            · cases h
          · cases h
        · cases h
      · cases h
    · cases h
  · -- putfield
    split at h
    · next va oo r =>
      split at h
      · next ho =>
        split at h
        · next q eq =>
          split at h
          · next w ew =>
            split at h
            · next hw =>
              cases h
              obtain ⟨v, vs, rfl, h1, h2⟩ := eSk_c hst
              obtain ⟨v2, w2, rfl, h3, h4⟩ := eSk_c h2
              obtain ⟨o1, o2⟩ := oo
              have e1 : o1 = 0 := ho.2
              subst e1
              cases eG_0 h3
              obtain ⟨x, rfl⟩ := eG_int h1 ho.1
              obtain ⟨hw1, hw2, hw3, hw4⟩ := hw
              have hres := hk lv w2 (upd f (64 * o2 + q.2.2.1) x) g hlv h4 (eOk_f hs hw3 h1)
              have key : mGf Fd z (fun ci k z => mSc sh o2 ci k fun q => (match q, z with | none, 1 => kn lv w2 (upd f (64 * o2 + k) x) g | none, 2 => (x = 0 ∨ x = 1) ∧ kn lv w2 (upd f (64 * o2 + k) x) g | _, _ => False)) := by
                unfold mGf
                rw [eq]
                dsimp only
                unfold mSc
                rw [ew]
                dsimp only
                rw [if_pos hw1, hw2]
                dsimp only
                rcases hw4 with e | ⟨e, e2⟩
                · rw [e]
                  exact hres
                · rw [e]
                  refine ⟨?_, hres⟩
                  rcases e2 with rfl | rfl
                  · left
                    exact eG_i h1
                  · right
                    exact eG_i h1
              exact key
            · cases h
          · cases h
        · cases h
      · cases h
    · cases h
  · -- iaload
    split at h
    · next k oo r =>
      split at h
      · next ho =>
        split at h
        · next w ew =>
          split at h
          · next hw =>
            cases h
            obtain ⟨v, vs, rfl, h1, h2⟩ := eSk_c hst
            obtain ⟨v2, w2, rfl, h3, h4⟩ := eSk_c h2
            obtain ⟨k1, k2⟩ := k
            obtain ⟨o1, o2⟩ := oo
            have e1 : k1 = 1 := ho.1
            have e2 : o1 = 0 := ho.2
            subst e1; subst e2
            cases eG_0 h3
            obtain ⟨y, rfl⟩ := eG_int h1 (Nat.le_refl 1)
            obtain ⟨hin, hcl⟩ := eIn h1 hw.2.1 hw.2.2
            have key : mSa sh o2 0 fun n => vp_in y n ∧ kn lv (.inl (g o2 y.toNatClampNeg) :: w2) f g := by
              unfold mSa
              rw [ew]
              dsimp only
              rw [if_pos hw.1]
              refine ⟨hin, ?_⟩
              rw [hcl]
              exact hk lv (.inl (g o2 k2) :: w2) f g hlv ⟨hs.2.2 o2 k2, h4⟩ hs
            exact key
          · cases h
        · cases h
      · cases h
    · cases h
  · -- baload
    split at h
    · next k oo r =>
      split at h
      · next ho =>
        split at h
        · next w ew =>
          split at h
          · next hw =>
            cases h
            obtain ⟨v, vs, rfl, h1, h2⟩ := eSk_c hst
            obtain ⟨v2, w2, rfl, h3, h4⟩ := eSk_c h2
            obtain ⟨k1, k2⟩ := k
            obtain ⟨o1, o2⟩ := oo
            have e1 : k1 = 1 := ho.1
            have e2 : o1 = 0 := ho.2
            subst e1; subst e2
            cases eG_0 h3
            obtain ⟨y, rfl⟩ := eG_int h1 (Nat.le_refl 1)
            obtain ⟨hin, hcl⟩ := eIn h1 hw.2.1 hw.2.2
            have key : mSa sh o2 1 fun n => vp_in y n ∧ kn lv (.inl (g o2 y.toNatClampNeg) :: w2) f g := by
              unfold mSa
              rw [ew]
              dsimp only
              rw [if_pos hw.1]
              refine ⟨hin, ?_⟩
              rw [hcl]
              exact hk lv (.inl (g o2 k2) :: w2) f g hlv ⟨hs.2.2 o2 k2, h4⟩ hs
            exact key
          · cases h
        · cases h
      · cases h
    · cases h
  · -- iastore
    obtain ⟨va, k, j, r, x, y, w, rfl, rfl, hv, hi1, hr, h⟩ := eI3_inv h hst
    try dsimp only at h
    split at h
    · next hj =>
      split at h
      · next ww ew =>
        split at h
        · next hw =>
          cases h
          obtain ⟨k1, k2⟩ := k
          have e1 : k1 = 1 := hj.1
          subst e1
          obtain ⟨hin, hcl⟩ := eIn hi1 hw.2.1 hw.2.2
          have key : mSa sh j 0 fun n => vp_in y n ∧ kn lv w f (mUp g j (upd (g j) y.toNatClampNeg x)) := by
            unfold mSa
            rw [ew]
            dsimp only
            rw [if_pos hw.1]
            refine ⟨hin, ?_⟩
            rw [hcl]
            exact hk lv w f _ hlv hr (eOk_g hs hj.2.1 hv)
          exact key
        · cases h
      · cases h
    · cases h
  · -- bastore
    obtain ⟨va, k, j, r, x, y, w, rfl, rfl, hv, hi1, hr, h⟩ := eI3_inv h hst
    try dsimp only at h
    split at h
    · next hj =>
      split at h
      · next ww ew =>
        split at h
        · next hw =>
          cases h
          obtain ⟨k1, k2⟩ := k
          have e1 : k1 = 1 := hj.1
          subst e1
          obtain ⟨hin, hcl⟩ := eIn hi1 hw.2.1 hw.2.2
          have key : mSa sh j 1 fun n => vp_in y n ∧ kn lv w f (mUp g j (upd (g j) y.toNatClampNeg (x &&& 1))) := by
            unfold mSa
            rw [ew]
            dsimp only
            rw [if_pos hw.1]
            refine ⟨hin, ?_⟩
            rw [hcl]
            exact hk lv w f _ hlv hr (eOk_g hs hj.2.1 (eB_ok (op := fun a _ => a &&& 1) hv (eG_c 0)))
          exact key
        · cases h
      · cases h
    · cases h
  · -- arraylength
    split at h
    · next oo r =>
      split at h
      · next ho =>
        split at h
        · next w ew =>
          split at h
          · next hw =>
            cases h
            obtain ⟨v, vs, rfl, h1, h2⟩ := eSk_c hst
            obtain ⟨o1, o2⟩ := oo
            have e1 : o1 = 0 := ho
            subst e1
            cases eG_0 h1
            have key : mSa sh o2 0 fun n => kn lv (.inl (Int32.ofNat n) :: vs) f g := by
              unfold mSa
              rw [ew]
              dsimp only
              rw [if_pos hw]
              exact hk lv (.inl (Int32.ofNat w.2) :: vs) f g hlv ⟨eG_c _, h2⟩ hs
            exact key
          · cases h
        · cases h
      · cases h
    · cases h
  · -- invokevirtual
    split at h
    · next q eq =>
      split at h
      · next oo r ed =>
        split at h
        · next ho =>
          split at h
          · next w ew =>
            split at h
            · next hw =>
              have hdr := eSk_drop q.2.2.1 hst
              rw [ed] at hdr
              obtain ⟨v, vs, evs, h1, h2⟩ := eSk_c hdr
              obtain ⟨o1, o2⟩ := oo
              have e1 : o1 = 0 := ho
              subst e1
              have ev := eG_0 h1
              subst ev
              show mIv sh (eMc sps Cl) z st f g _
              unfold mIv
              rw [eMc_at eq]
              dsimp only
              rw [evs]
              dsimp only
              unfold mRo
              rw [ew]
              dsimp only
              rw [if_pos hw.1, if_pos (by rw [eSk_len h2]; exact hw.2)]
              exact eRes_ok (av := .inr o2 :: (st.take q.2.2.1).reverse) hcv h hlv h2 (show eSk c ((0, o2) :: (sa.take q.2.2.1).reverse) (.inr o2 :: (st.take q.2.2.1).reverse) from ⟨h1, eSk_rev (eSk_take _ hst)⟩) hs hk
            · cases h
          · cases h
        · cases h
      · cases h
    · cases h
  · -- invokestatic
    split at h
    · next q eq =>
      split at h
      · next hw =>
        have hdr := eSk_drop q.2.2.1 hst
        have key : mIs (eMc sps Cl) z st f g (fun rest r f' g' => kn lv (mPush r rest) f' g') := by
          unfold mIs
          rw [eMc_at eq]
          dsimp only
          rw [if_pos (by rw [eSk_len hst]; exact hw.1), if_pos (by rw [eSk_len hdr]; exact hw.2)]
          exact eRes_ok hcv h hlv hdr (eSk_rev (eSk_take _ hst)) hs hk
        exact key
      · cases h
    · cases h
  · -- ireturn
    split at h
    · next a =>
      split at h
      · next ha =>
        cases h
        obtain ⟨v, vs, rfl, h1, h2⟩ := eSk_c hst
        cases eSk_n h2
        obtain ⟨x, rfl⟩ := eG_int h1 ha
        exact hk lv [.inl x] f g hlv hst hs _ (Or.inr ⟨x, rfl, rfl⟩)
      · cases h
    · cases h
  · -- return
    split at h
    · cases h
      cases eSk_n hst
      exact hk lv [] f g hlv hst hs _ (Or.inl ⟨rfl, rfl⟩)
    · cases h
  · cases h
def eBk (ev1 : mEn → eL → List eV → eSt → Option eR) (e : Nat) : List mEn → eL → List eV → eSt → Option eR
  | [], lv, st, s => some (e + 2, lv, st, s)
  | q :: r, lv, st, s => match ev1 q lv st s with
    | none => none
    | some o => match o.1 with
      | 0 => eBk ev1 e r o.2.1 o.2.2.1 o.2.2.2
      | _ + 1 => some o
abbrev eE1 (lo hi : Nat → Int) (sh : mSh) (df : Nat → Nat → Nat) (cv : Nat → List eV → eSt → Option (Option eV × eSt)) (Fd : mFt) (Cl : eCl) : mEn → eL → List eV → eSt → Option eR := fun q lv st s => eOp lo hi sh df cv Fd Cl q.2.1 q.2.2.1 q.2.2.2.1 q.2.2.2.2 lv st s
theorem eBk_ok {c : Nat → Int} {lo hi : Nat → Int} (hbd : eBd lo hi c) {sh : mSh} {df : Nat → Nat → Nat} {sps : Nat → mSp} {cv : Nat → List eV → eSt → Option (Option eV × eSt)} (hcv : eCv c df sps cv) {Fd : mFt} {Cl : eCl} {e : Nat} {kj : Nat → mL → List mV → mFn → mGn → Prop} {kr : mKr} :
    ∀ (qs : List mEn) {la : eL} {sa : List eV} {s : eSt} {o : eR}, eBk (eE1 lo hi sh df cv Fd Cl) e qs la sa s = some o → ∀ {lv : mL} {st : List mV} {f : mFn} {g : mGn}, eLo c la lv → eSk c sa st → eOk c df s f g →
    (∀ lv' st' f' g', eLo c o.2.1 lv' → eSk c o.2.2.1 st' → eOk c df o.2.2.2 f' g' → o.1 ≠ 0 ∧ eNx (fun _ _ _ _ => False) kj kr o.1 lv' st' f' g') → mB sh Fd (eMc sps Cl) e kj kr qs lv st f g
  | [], la, sa, s, o, h, lv, st, f, g, hlv, hst, hs, hk => by
    unfold eBk at h
    cases h
    exact (hk lv st f g hlv hst hs).2
  | q :: r, la, sa, s, o, h, lv, st, f, g, hlv, hst, hs, hk => by
    unfold eBk at h
    split at h
    · cases h
    · next o1 e1 =>
      show mS sh Fd (eMc sps Cl) (mB sh Fd (eMc sps Cl) e kj kr r) kj kr q.2.1 q.2.2.1 q.2.2.2.1 q.2.2.2.2 lv st f g
      refine eOp_ok hbd hcv e1 hlv hst hs (fun lv' st' f' g' h1 h2 h3 => ?_)
      split at h
      · next ez =>
        rw [ez]
        exact eBk_ok hbd hcv r h h1 h2 h3 hk
      · next n ez =>
        cases h
        obtain ⟨-, h4⟩ := hk lv' st' f' g' h1 h2 h3
        rw [ez] at h4 ⊢
        cases n with
        | zero => exact h4
        | succ n => exact h4
def eRt (ret : Option FieldType) (r : Option eV) : Bool := match r with
  | none => decide (ret = none)
  | some a => decide (ret ≠ none) && (decide (1 ≤ a.1)) && (decide (ret ≠ some .boolean) || decide (a = (1, 0)) || decide (a = (1, 1)))
theorem eRt_ok {c : Nat → Int} {ret : Option FieldType} {r : Option eV} (h : eRt ret r = true) {v : Option mV} (hv : eRv c r v) : mRt ret v := by
  cases r with
  | none =>
    cases v with
    | none =>
      have h2 : decide (ret = none) = true := h
      exact (of_decide_eq_true h2 : ret = none)
    | some v => exact False.elim hv
  | some a =>
    cases v with
    | none => exact False.elim hv
    | some v =>
      simp only [eRt, Bool.and_eq_true, Bool.or_eq_true, decide_eq_true_eq] at h
      obtain ⟨⟨h1, h2⟩, h3⟩ := h
      obtain ⟨x, rfl⟩ := eG_int hv h2
      refine ⟨h1, fun hb => ?_⟩
      rcases h3 with (h3 | h3) | h3
      · exact absurd hb h3
      · subst h3
        cases eG_1 hv
        exact Or.inl rfl
      · subst h3
        cases eG_1 hv
        exact Or.inr rfl
/-- from a block on, until it comes back -/
def eGo (b1 : Nat → List mEn → eL → List eV → eSt → Option eR) (bs : List mBl) : Nat → Nat → eL → List eV → eSt → Option (Option eV × eSt)
  | 0, _, _, _, _ => none
  | n + 1, pc, lv, st, s => match bs.find? (fun b => b.1 == pc) with
    | none => none
    | some b => match b1 b.2.2 b.2.1 lv st s with
      | none => none
      | some o => match o.1 with
        | 0 => none
        | 1 => (match o.2.2.1 with
          | [] => some (none, o.2.2.2)
          | [a] => some (some a, o.2.2.2)
          | _ => none)
        | t + 2 => eGo b1 bs n t o.2.1 o.2.2.1 o.2.2.2
theorem eGo_ok {c : Nat → Int} {lo hi : Nat → Int} (hbd : eBd lo hi c) {sh : mSh} {df : Nat → Nat → Nat} {sps : Nat → mSp} {cv : Nat → List eV → eSt → Option (Option eV × eSt)} (hcv : eCv c df sps cv) {Fd : mFt} {Cl : eCl} {bs : List mBl} {kr : mKr} {X : Nat → mL → List mV → mFn → mGn → Prop} (hX : mR sh Fd (eMc sps Cl) bs kr X) {r : Option eV} {s' : eSt}
    (hk : ∀ v f' g', eRv c r v → eOk c df s' f' g' → kr v f' g') :
    ∀ (n : Nat) {pc : Nat} {la : eL} {sa : List eV} {s : eSt}, eGo (fun e qs => eBk (eE1 lo hi sh df cv Fd Cl) e qs) bs n pc la sa s = some (r, s') → ∀ {lv : mL} {st : List mV} {f : mFn} {g : mGn}, eLo c la lv → eSk c sa st → eOk c df s f g → X pc lv st f g
  | 0, pc, la, sa, s, h, lv, st, f, g, hlv, hst, hs => by simp [eGo] at h
  | n + 1, pc, la, sa, s, h, lv, st, f, g, hlv, hst, hs => by
    unfold eGo at h
    split at h
    · cases h
    · next b eb =>
      have hb1 : b.1 = pc := by
        have := List.find?_some eb
        simpa using this
      obtain ⟨nn, hnn⟩ := List.getElem?_of_mem (List.mem_of_find?_eq_some eb)
      split at h
      · cases h
      · next o eo =>
        rw [← hb1]
        refine hX.1 nn b hnn lv st f g ?_
        refine eBk_ok hbd hcv b.2.1 eo hlv hst hs (fun lv' st' f' g' h1 h2 h3 => ?_)
        split at h
        · cases h
        · next ez =>
          rw [ez]
          refine ⟨by decide, fun rr hrr => ?_⟩
          split at h
          · next el =>
            cases h
            rw [el] at h2
            cases eSk_n h2
            rcases hrr with ⟨-, rfl⟩ | ⟨x, e9, -⟩
            · exact hk none f' g' trivial h3
            · cases e9
          · next a el =>
            cases h
            rw [el] at h2
            obtain ⟨v, w, rfl, h4, h5⟩ := eSk_c h2
            cases eSk_n h5
            rcases hrr with ⟨e9, -⟩ | ⟨x, e9, rfl⟩
            · cases e9
            · cases e9
              exact hk _ f' g' h4 h3
          · cases h
        · next t ez =>
          rw [ez]
          exact ⟨by omega, eGo_ok hbd hcv hX hk n h h1 h2 h3⟩
def eAr : Nat → List eV → eL
  | _, [] => []
  | i, v :: r => (i, v) :: eAr (i + 1) r
theorem eAr_lt : ∀ (i k : Nat) (sa : List eV) (a : eV), eGet (eAr i sa) k = some a → i ≤ k
  | i, k, [], a, h => by cases h
  | i, k, v :: r, a, h => by
    simp only [eAr, eGet] at h
    split at h
    · next e => exact Nat.le_of_eq e
    · exact Nat.le_of_succ_le (eAr_lt (i + 1) k r a h)
theorem eAr_ok {c : Nat → Int} : ∀ (i : Nat) {sa : List eV} {av : List mV}, eSk c sa av → eLo c (eAr i sa) (mAr i av)
  | i, [], [], _ => fun k a h => by cases h
  | i, a :: r, v :: w, h => by
    intro k b hb
    simp only [eAr, eGet] at hb
    simp only [mAr, mGet]
    by_cases hk : i = k
    · rw [if_pos hk] at hb ⊢
      cases hb
      exact ⟨v, rfl, (eSk_1 h).1⟩
    · rw [if_neg hk] at hb ⊢
      exact eAr_ok (i + 1) (eSk_1 h).2 k b hb
  | i, [], _ :: _, h => False.elim h
  | i, _ :: _, [], h => False.elim h
/-- a method, by its number -/
def eEv (lo hi : Nat → Int) (sh : mSh) (df : Nat → Nat → Nat) (P : List eMt) (J : Nat) : Nat → Nat → List eV → eSt → Option (Option eV × eSt)
  | 0, _, _, _ => none
  | d + 1, id, sa, s => match P[id]? with
    | none => none
    | some m => if sa.length = m.2.2.2.1 then (match eGo (fun e qs => eBk (eE1 lo hi sh df (eEv lo hi sh df P J d) m.1 m.2.1) e qs) m.2.2.1 J 0 (eAr 0 sa) [] s with
      | none => none
      | some o => if eRt m.2.2.2.2 o.1 = true then some o else none) else none
def ePr (sh : mSh) (P : List eMt) (sps : Nat → mSp) : Prop := ∀ (id : Nat) (m : eMt), P[id]? = some m → sps id = mSpOf sh m.1 (eMc sps m.2.1) m.2.2.1 m.2.2.2.1 m.2.2.2.2
theorem eEv_ok {c : Nat → Int} {lo hi : Nat → Int} (hbd : eBd lo hi c) {sh : mSh} {df : Nat → Nat → Nat} {P : List eMt} {J : Nat} {sps : Nat → mSp} (hP : ePr sh P sps) : ∀ (d : Nat), eCv c df sps (eEv lo hi sh df P J d)
  | 0 => fun id sa s r s' h => by simp [eEv] at h
  | d + 1 => by
    intro id sa s r s' h av f g K hsa hs hK
    unfold eEv at h
    split at h
    · cases h
    · next m em =>
      split at h
      · next hl =>
        split at h
        · cases h
        · next o eo =>
          split at h
          · next hr =>
            cases h
            rw [hP id m em]
            refine ⟨by rw [eSk_len hsa]; exact hl, fun X hX => ?_⟩
            exact eGo_ok hbd (eEv_ok hbd hP d) hX (fun v f' g' hv hs' => ⟨eRt_ok hr hv, hK v f' g' hv hs'⟩) J eo (eAr_ok 0 hsa) trivial hs
          · cases h
      · cases h
