/-! the two worlds' lasting facts -/
theorem mRt_v : mRt none none := rfl
theorem mRt_i {v : Int32} : mRt (some .int) (some (.inl v)) := ⟨(fun h => by cases h), (fun h => by cases h)⟩
theorem mRt_z {v : Int32} (h : v = 0 ∨ v = 1) : mRt (some .boolean) (some (.inl v)) := ⟨(fun h => by cases h), (fun _ => h)⟩
theorem rg_rem {a b c d lo hi : Int} {x y : Int32} (h : rg a b x) (h2 : rg c d y) (hc : (decide (0 ≤ a) && decide (0 < c) && decide (c = d) && decide (lo ≤ 0) && decide (d - 1 ≤ hi)) = true) : rg lo hi (x - x / y * y) := by
  simp only [Bool.and_eq_true, decide_eq_true_eq] at hc
  obtain ⟨⟨⟨⟨c1, c2⟩, c3⟩, c4⟩, c5⟩ := hc
  obtain ⟨h1, h3⟩ := h
  obtain ⟨h4, h5⟩ := h2
  obtain ⟨i, hi1, rfl⟩ := nI_of (x := x) (fun z => by have := Int32.lt_iff_toInt_lt.mp z; simp at this; omega)
  obtain ⟨j, hj1, rfl⟩ := nI_of (x := y) (fun z => by have := Int32.lt_iff_toInt_lt.mp z; simp at this; omega)
  rw [nI_toInt hi1] at h1 h3
  rw [nI_toInt hj1] at h4 h5
  rw [pk_rem hi1 (by omega) hj1]
  have hm : i % j < j := Nat.mod_lt _ (by omega)
  have e := nI_toInt (n := i % j) (by omega)
  exact ⟨by rw [e]; omega, by rw [e]; omega⟩
theorem rg_sm : ∀ m, m < 31 → ((nI m &&& 31).toBitVec.smod 32).toNat = m := by decide +kernel
theorem rg_shlV {a b c d lo hi : Int} (k : Nat) {x s : Int32} (h : rg a b x) (h2 : rg c d s) (hc : (decide (0 ≤ a) && decide (0 ≤ c) && decide (d ≤ (k : Int)) && decide (k ≤ 30) && decide (lo ≤ 0) && decide (b * 2 ^ k ≤ hi) && decide (b * 2 ^ k ≤ 2147483647)) = true) : rg lo hi (x <<< (s &&& 31)) := by
  simp only [Bool.and_eq_true, decide_eq_true_eq] at hc
  obtain ⟨⟨⟨⟨⟨⟨c1, c2⟩, c3⟩, c4⟩, c5⟩, c6⟩, c7⟩ := hc
  obtain ⟨h4, h5⟩ := h2
  obtain ⟨j, hj1, rfl⟩ := nI_of (x := s) (fun z => by have := Int32.lt_iff_toInt_lt.mp z; simp at this; omega)
  rw [nI_toInt hj1] at h4 h5
  have hj : j ≤ k := by omega
  have hp : (2 : Int) ^ j ≤ 2 ^ k := by exact_mod_cast Nat.pow_le_pow_right (by decide) hj
  have hb0 : 0 ≤ b := by have := h.1; have := h.2; omega
  have hm : b * 2 ^ j ≤ b * 2 ^ k := Int.mul_le_mul_of_nonneg_left hp hb0
  refine rg_shlK j h (rg_sm j (by omega)) ?_
  simp only [Bool.and_eq_true, decide_eq_true_eq]
  exact ⟨⟨⟨c1, c5⟩, by omega⟩, by omega⟩
def SLc : sT := [(2, 0, 1), (322, 0, 299), (323, 0, 300), (325, 0, 2147483647), (72, 0, 1200000000)]
def ALc : aT := []
def FLc : List Nat := [2, 70]
def CLc : List Nat := [325, 329, 327, 72]
def cnc : cT := fun n e f => 0 ≤ n ∧ n ≤ 300000000 ∧ (f 325).toInt + (if 0 < (f 329).toInt then 1 else 0) + (if f 327 = 0 then 0 else 1) ≤ n ∧ (f 72).toInt ≤ 4 * n
theorem cnc_k : ∀ (n e : Int) (f : mFn) (k : Nat) (v : Int32), k ∉ CLc → cnc n e f → cnc n e (upd f k v) := by
  intro n e f k v hk h
  unfold CLc at hk
  simp only [List.mem_cons, List.not_mem_nil, or_false, not_or] at hk
  unfold cnc at h ⊢
  rw [pk_un (f := f) (k := k) (x := v) (show 325 ≠ k from fun z => hk.1 z.symm), pk_un (f := f) (k := k) (x := v) (show 329 ≠ k from fun z => hk.2.1 z.symm), pk_un (f := f) (k := k) (x := v) (show 327 ≠ k from fun z => hk.2.2.1 z.symm), pk_un (f := f) (k := k) (x := v) (show 72 ≠ k from fun z => hk.2.2.2 z.symm)]
  exact h
abbrev cI (n e : Int) (f0 f : mFn) (g : mGn) : Prop := gI SLc ALc FLc cnc n e f0 f g
theorem cP0 {n e : Int} {f0 f : mFn} {g : mGn} (h : cI n e f0 f g) {k : Nat} {v : Int32} (hk : gk0 SLc FLc CLc k = true) : cI n e f0 (upd f k v) g := gI_p0 cnc_k h hk
theorem cP1 {n e : Int} {f0 f : mFn} {g : mGn} (i : Nat) {lo hi : Int} {k : Nat} {v : Int32} (hv : rg lo hi v) (h : cI n e f0 f g) (hk : gk1 SLc FLc CLc i k lo hi = true) : cI n e f0 (upd f k v) g := gI_p1 cnc_k h i hv hk
theorem cM {n m e : Int} {f0 f : mFn} {g : mGn} (h : cI n e f0 f g) (h1 : n ≤ m) (h2 : m ≤ 300000000) : cI m e f0 f g := by
  obtain ⟨a, b, c, d1, d2, d3, d4⟩ := h
  exact ⟨a, b, c, by omega, h2, by omega, by omega⟩
theorem cN {n m e : Int} {f0 f : mFn} {g : mGn} (h : cI n e f0 f g) (h1 : n = m) : cI m e f0 f g := h1 ▸ h
def SLr : sT := [(0, 0, 1), (6, 0, 15), (7, 0, 1), (8, 0, 255), (9, 0, 1), (12, 0, 2047), (25, (-1), 255), (26, 0, 255), (28, 0, 255), (30, 0, 255), (31, 0, 255), (32, 0, 2), (35, 0, 300), (36, 0, 2147483647), (37, 0, 1200008000)]
def ALr : aT := [(1, 2048, 0, 65535), (2, 32, 0, 65535), (3, 1280, 0, 255), (4, 256, 0, 255), (5, 32, 0, 1), (6, 300, 0, 255), (7, 1000, 0, 255)]
def FLr : List Nat := [8, 9]
def CLr : List Nat := [36, 27, 25, 37]
def cnr : cT := fun n e f => 0 ≤ n ∧ n ≤ 300000000 ∧ 0 ≤ e ∧ e ≤ 8000 ∧ (f 36).toInt + (if 0 < (f 27).toInt then 1 else 0) + (if f 25 = -1 then 0 else 1) ≤ n ∧ (f 37).toInt ≤ 4 * n + e
theorem cnr_k : ∀ (n e : Int) (f : mFn) (k : Nat) (v : Int32), k ∉ CLr → cnr n e f → cnr n e (upd f k v) := by
  intro n e f k v hk h
  unfold CLr at hk
  simp only [List.mem_cons, List.not_mem_nil, or_false, not_or] at hk
  unfold cnr at h ⊢
  rw [pk_un (f := f) (k := k) (x := v) (show 36 ≠ k from fun z => hk.1 z.symm), pk_un (f := f) (k := k) (x := v) (show 27 ≠ k from fun z => hk.2.1 z.symm), pk_un (f := f) (k := k) (x := v) (show 25 ≠ k from fun z => hk.2.2.1 z.symm), pk_un (f := f) (k := k) (x := v) (show 37 ≠ k from fun z => hk.2.2.2 z.symm)]
  exact h
abbrev rI (n e : Int) (f0 f : mFn) (g : mGn) : Prop := gI SLr ALr FLr cnr n e f0 f g
theorem rP0 {n e : Int} {f0 f : mFn} {g : mGn} (h : rI n e f0 f g) {k : Nat} {v : Int32} (hk : gk0 SLr FLr CLr k = true) : rI n e f0 (upd f k v) g := gI_p0 cnr_k h hk
theorem rP1 {n e : Int} {f0 f : mFn} {g : mGn} (i : Nat) {lo hi : Int} {k : Nat} {v : Int32} (hv : rg lo hi v) (h : rI n e f0 f g) (hk : gk1 SLr FLr CLr i k lo hi = true) : rI n e f0 (upd f k v) g := gI_p1 cnr_k h i hv hk
theorem rM {n m e : Int} {f0 f : mFn} {g : mGn} (h : rI n e f0 f g) (h1 : n ≤ m) (h2 : m ≤ 300000000) : rI m e f0 f g := by
  obtain ⟨a, b, c, d1, d2, d3, d4, d5, d6⟩ := h
  exact ⟨a, b, c, by omega, h2, d3, d4, by omega, by omega⟩
theorem rN {n m e : Int} {f0 f : mFn} {g : mGn} (h : rI n e f0 f g) (h1 : n = m) : rI m e f0 f g := h1 ▸ h
