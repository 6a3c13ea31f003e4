/-! ranges of ints -/
def rg (a b : Int) (x : Int32) : Prop := a ≤ x.toInt ∧ x.toInt ≤ b
theorem rg_ti (x : Int32) : x.toInt = if 2 * x.toBitVec.toNat < 4294967296 then (x.toBitVec.toNat : Int) else (x.toBitVec.toNat : Int) - 4294967296 := by
  have h := BitVec.toInt_eq_toNat_cond x.toBitVec
  simpa using h
theorem rg_nn {x : Int32} (h : 0 ≤ x.toInt) : x.toBitVec.toNat < 2147483648 ∧ x.toInt = (x.toBitVec.toNat : Int) := by
  have h1 := rg_ti x
  have h2 : x.toBitVec.toNat < 4294967296 := x.toBitVec.isLt
  split at h1 <;> omega
theorem rg_of {x : Int32} {n : Nat} (h : x.toBitVec.toNat = n) (hn : n < 2147483648) : x.toInt = (n : Int) := by
  have h1 := rg_ti x
  split at h1 <;> omega
theorem rg_bm {z : Int} (h1 : -2147483648 ≤ z) (h2 : z ≤ 2147483647) : z.bmod (2 ^ 32) = z := by
  rw [Int.bmod_def]
  split <;> omega
theorem rg_all (x : Int32) : rg (-2147483648) 2147483647 x := ⟨by have := x.le_toInt; simpa using this, by have := x.toInt_lt; omega⟩
theorem rg_c {a b : Int} {x : Int32} (h : (decide (a ≤ x.toInt) && decide (x.toInt ≤ b)) = true) : rg a b x := by
  simpa [rg] using h
theorem rg_w {a b c d : Int} {x : Int32} (h : rg a b x) (hc : (decide (c ≤ a) && decide (b ≤ d)) = true) : rg c d x := by
  simp only [Bool.and_eq_true, decide_eq_true_eq] at hc
  exact ⟨by have := h.1; omega, by have := h.2; omega⟩
theorem rg_in {a b : Int} {x : Int32} {n : Nat} (h : rg a b x) (hc : (decide (0 ≤ a) && decide (b < (n : Int))) = true) : vp_in x n := by
  simp only [Bool.and_eq_true, decide_eq_true_eq] at hc
  exact vp_in_iff.mpr ⟨by have := h.1; omega, by have := h.2; omega⟩
theorem rg_01 {a b : Int} {x : Int32} (h : rg a b x) (hc : (decide (0 ≤ a) && decide (b ≤ 1)) = true) : x = 0 ∨ x = 1 := by
  simp only [Bool.and_eq_true, decide_eq_true_eq] at hc
  obtain ⟨h1, h2⟩ := h
  rcases (show x.toInt = 0 ∨ x.toInt = 1 by omega) with h | h
  · exact Or.inl (Int32.toInt_inj.mp (by rw [h]; rfl))
  · exact Or.inr (Int32.toInt_inj.mp (by rw [h]; rfl))
theorem rg_add {a b c d lo hi : Int} {x y : Int32} (h : rg a b x) (h2 : rg c d y) (hc : (decide (lo ≤ a + c) && decide (b + d ≤ hi) && decide (-2147483648 ≤ a + c) && decide (b + d ≤ 2147483647)) = true) : rg lo hi (x + y) := by
  simp only [Bool.and_eq_true, decide_eq_true_eq] at hc
  obtain ⟨⟨⟨c1, c2⟩, c3⟩, c4⟩ := hc
  obtain ⟨h1, h3⟩ := h
  obtain ⟨h4, h5⟩ := h2
  have e : (x + y).toInt = x.toInt + y.toInt := by rw [Int32.toInt_add]; exact rg_bm (by omega) (by omega)
  exact ⟨by rw [e]; omega, by rw [e]; omega⟩
theorem rg_sub {a b c d lo hi : Int} {x y : Int32} (h : rg a b x) (h2 : rg c d y) (hc : (decide (lo ≤ a - d) && decide (b - c ≤ hi) && decide (-2147483648 ≤ a - d) && decide (b - c ≤ 2147483647)) = true) : rg lo hi (x - y) := by
  simp only [Bool.and_eq_true, decide_eq_true_eq] at hc
  obtain ⟨⟨⟨c1, c2⟩, c3⟩, c4⟩ := hc
  obtain ⟨h1, h3⟩ := h
  obtain ⟨h4, h5⟩ := h2
  have e : (x - y).toInt = x.toInt - y.toInt := by rw [Int32.toInt_sub]; exact rg_bm (by omega) (by omega)
  exact ⟨by rw [e]; omega, by rw [e]; omega⟩
theorem rg_mul {a b c d lo hi : Int} {x y : Int32} (h : rg a b x) (h2 : rg c d y) (hc : (decide (0 ≤ a) && decide (0 ≤ c) && decide (lo ≤ 0) && decide (b * d ≤ hi) && decide (b * d ≤ 2147483647)) = true) : rg lo hi (x * y) := by
  simp only [Bool.and_eq_true, decide_eq_true_eq] at hc
  obtain ⟨⟨⟨⟨c1, c2⟩, c3⟩, c4⟩, c5⟩ := hc
  obtain ⟨h1, h3⟩ := h
  obtain ⟨h4, h5⟩ := h2
  have p1 : 0 ≤ x.toInt * y.toInt := Int.mul_nonneg (by omega) (by omega)
  have p2 : x.toInt * y.toInt ≤ b * d := Int.mul_le_mul h3 h5 (by omega) (by omega)
  have e : (x * y).toInt = x.toInt * y.toInt := by rw [Int32.toInt_mul]; exact rg_bm (by omega) (by omega)
  exact ⟨by rw [e]; omega, by rw [e]; omega⟩
theorem rg_andR {c d lo hi : Int} {x y : Int32} (h : rg c d y) (hc : (decide (0 ≤ c) && decide (lo ≤ 0) && decide (d ≤ hi)) = true) : rg lo hi (x &&& y) := by
  simp only [Bool.and_eq_true, decide_eq_true_eq] at hc
  obtain ⟨⟨c1, c2⟩, c3⟩ := hc
  obtain ⟨h1, h2⟩ := h
  obtain ⟨g1, g2⟩ := rg_nn (x := y) (by omega)
  have e : (x &&& y).toBitVec.toNat = x.toBitVec.toNat &&& y.toBitVec.toNat := by rw [Int32.toBitVec_and, BitVec.toNat_and]
  have le : x.toBitVec.toNat &&& y.toBitVec.toNat ≤ y.toBitVec.toNat := Nat.and_le_right
  have e2 := rg_of e (by omega)
  exact ⟨by rw [e2]; omega, by rw [e2]; omega⟩
theorem rg_andL {c d lo hi : Int} {x y : Int32} (h : rg c d x) (hc : (decide (0 ≤ c) && decide (lo ≤ 0) && decide (d ≤ hi)) = true) : rg lo hi (x &&& y) := by
  rw [Int32.and_comm]
  exact rg_andR h hc
theorem rg_or {a b c d lo hi : Int} {k : Nat} {x y : Int32} (h : rg a b x) (h2 : rg c d y) (hc : (decide (0 ≤ a) && decide (0 ≤ c) && decide (b < 2 ^ k) && decide (d < 2 ^ k) && decide (k ≤ 31) && decide (lo ≤ 0) && decide (2 ^ k - 1 ≤ hi)) = true) : rg lo hi (x ||| y) := by
  simp only [Bool.and_eq_true, decide_eq_true_eq] at hc
  obtain ⟨⟨⟨⟨⟨⟨c1, c2⟩, c3⟩, c4⟩, c5⟩, c6⟩, c7⟩ := hc
  obtain ⟨h1, h3⟩ := h
  obtain ⟨h4, h5⟩ := h2
  obtain ⟨g1, g2⟩ := rg_nn (x := x) (by omega)
  obtain ⟨g3, g4⟩ := rg_nn (x := y) (by omega)
  have hk : ((2 ^ k : Nat) : Int) = (2 : Int) ^ k := by norm_cast
  have n1 : x.toBitVec.toNat < 2 ^ k := by omega
  have n2 : y.toBitVec.toNat < 2 ^ k := by omega
  have e : (x ||| y).toBitVec.toNat = x.toBitVec.toNat ||| y.toBitVec.toNat := by rw [Int32.toBitVec_or, BitVec.toNat_or]
  have lt : x.toBitVec.toNat ||| y.toBitVec.toNat < 2 ^ k := Nat.or_lt_two_pow n1 n2
  have hk31 : 2 ^ k ≤ 2 ^ 31 := Nat.pow_le_pow_right (by decide) c5
  have e2 := rg_of e (by omega)
  exact ⟨by rw [e2]; omega, by rw [e2]; omega⟩
theorem rg_xor {a b c d lo hi : Int} {k : Nat} {x y : Int32} (h : rg a b x) (h2 : rg c d y) (hc : (decide (0 ≤ a) && decide (0 ≤ c) && decide (b < 2 ^ k) && decide (d < 2 ^ k) && decide (k ≤ 31) && decide (lo ≤ 0) && decide (2 ^ k - 1 ≤ hi)) = true) : rg lo hi (x ^^^ y) := by
  simp only [Bool.and_eq_true, decide_eq_true_eq] at hc
  obtain ⟨⟨⟨⟨⟨⟨c1, c2⟩, c3⟩, c4⟩, c5⟩, c6⟩, c7⟩ := hc
  obtain ⟨h1, h3⟩ := h
  obtain ⟨h4, h5⟩ := h2
  obtain ⟨g1, g2⟩ := rg_nn (x := x) (by omega)
  obtain ⟨g3, g4⟩ := rg_nn (x := y) (by omega)
  have hk : ((2 ^ k : Nat) : Int) = (2 : Int) ^ k := by norm_cast
  have n1 : x.toBitVec.toNat < 2 ^ k := by omega
  have n2 : y.toBitVec.toNat < 2 ^ k := by omega
  have e : (x ^^^ y).toBitVec.toNat = x.toBitVec.toNat ^^^ y.toBitVec.toNat := by rw [Int32.toBitVec_xor, BitVec.toNat_xor]
  have lt : x.toBitVec.toNat ^^^ y.toBitVec.toNat < 2 ^ k := Nat.xor_lt_two_pow n1 n2
  have hk31 : 2 ^ k ≤ 2 ^ 31 := Nat.pow_le_pow_right (by decide) c5
  have e2 := rg_of e (by omega)
  exact ⟨by rw [e2]; omega, by rw [e2]; omega⟩
/-- right by any count: no more than it was -/
theorem rg_shr {a b lo hi : Int} {x s : Int32} (h : rg a b x) (hc : (decide (0 ≤ a) && decide (lo ≤ 0) && decide (b ≤ hi)) = true) : rg lo hi (x >>> (s &&& 31)) := by
  simp only [Bool.and_eq_true, decide_eq_true_eq] at hc
  obtain ⟨⟨c1, c2⟩, c3⟩ := hc
  obtain ⟨h1, h2⟩ := h
  have e := pk_shr x (s &&& 31) ((s &&& 31).toBitVec.smod 32).toNat rfl
  have hx : 0 ≤ x.toInt := by omega
  rw [Int.shiftRight_eq_div_pow] at e
  have q1 : 0 ≤ x.toInt / ((2 ^ ((s &&& 31).toBitVec.smod 32).toNat : Nat) : Int) := Int.ediv_nonneg hx (Int.natCast_nonneg _)
  have q2 : x.toInt / ((2 ^ ((s &&& 31).toBitVec.smod 32).toNat : Nat) : Int) ≤ x.toInt := Int.ediv_le_self _ hx
  exact ⟨by rw [e]; omega, by rw [e]; omega⟩
/-- right by a known count -/
theorem rg_shrK {a b lo hi : Int} (k : Nat) {x s : Int32} (h : rg a b x) (hs : ((s &&& 31).toBitVec.smod 32).toNat = k) (hc : (decide (lo ≤ a / 2 ^ k) && decide (b / 2 ^ k ≤ hi)) = true) : rg lo hi (x >>> (s &&& 31)) := by
  simp only [Bool.and_eq_true, decide_eq_true_eq] at hc
  obtain ⟨h1, h2⟩ := h
  have e := pk_shr x (s &&& 31) k hs
  rw [Int.shiftRight_eq_div_pow] at e
  have hk : ((2 ^ k : Nat) : Int) = (2 : Int) ^ k := by norm_cast
  rw [hk] at e
  have hp : (0 : Int) < 2 ^ k := by rw [← hk]; exact_mod_cast Nat.two_pow_pos k
  have q1 : a / 2 ^ k ≤ x.toInt / 2 ^ k := Int.ediv_le_ediv hp h1
  have q2 : x.toInt / 2 ^ k ≤ b / 2 ^ k := Int.ediv_le_ediv hp h2
  exact ⟨by rw [e]; omega, by rw [e]; omega⟩
theorem rg_shlK {a b lo hi : Int} (k : Nat) {x s : Int32} (h : rg a b x) (hs : ((s &&& 31).toBitVec.smod 32).toNat = k) (hc : (decide (0 ≤ a) && decide (lo ≤ 0) && decide (b * 2 ^ k ≤ hi) && decide (b * 2 ^ k ≤ 2147483647)) = true) : rg lo hi (x <<< (s &&& 31)) := by
  simp only [Bool.and_eq_true, decide_eq_true_eq] at hc
  obtain ⟨⟨⟨c1, c2⟩, c3⟩, c4⟩ := hc
  obtain ⟨h1, h2⟩ := h
  obtain ⟨g1, g2⟩ := rg_nn (x := x) (by omega)
  have e := pk_shl x (s &&& 31) k hs
  have hk : ((2 ^ k : Nat) : Int) = (2 : Int) ^ k := by norm_cast
  have hp : (0 : Int) < 2 ^ k := by rw [← hk]; exact_mod_cast Nat.two_pow_pos k
  have q1 : ((x.toBitVec.toNat * 2 ^ k : Nat) : Int) ≤ b * 2 ^ k := by
    rw [Int.natCast_mul, hk]
    exact Int.mul_le_mul_of_nonneg_right (by omega) (Int.le_of_lt hp)
  rw [Nat.mod_eq_of_lt (by omega)] at e
  have e2 := rg_of e (by omega)
  exact ⟨by rw [e2]; omega, by rw [e2]; omega⟩
theorem rg_ushrK {lo hi : Int} (k : Nat) {x s : Int32} (hs : ((s.toUInt32 &&& Int32.toUInt32 31).toBitVec % 32).toNat = k) (hc : (decide (1 ≤ k) && decide (lo ≤ 0) && decide ((4294967295 / 2 ^ k : Nat) ≤ hi)) = true) : rg lo hi (x.toUInt32 >>> (s.toUInt32 &&& Int32.toUInt32 31)).toInt32 := by
  simp only [Bool.and_eq_true, decide_eq_true_eq] at hc
  obtain ⟨⟨c1, c2⟩, c3⟩ := hc
  have e := pk_ushr x s k hs
  have hx : x.toBitVec.toNat ≤ 4294967295 := by have := x.toBitVec.isLt; omega
  have q : x.toBitVec.toNat / 2 ^ k ≤ 4294967295 / 2 ^ k := Nat.div_le_div_right hx
  have q2 : 4294967295 / 2 ^ k ≤ 4294967295 / 2 ^ 1 := Nat.div_le_div_left (Nat.pow_le_pow_right (by decide) c1) (by decide)
  have e2 := rg_of e (by omega)
  exact ⟨by rw [e2]; omega, by rw [e2]; omega⟩
theorem rg_lt {a b c d e : Int} {x y : Int32} (hx : rg a b x) (hy : rg c d y) (h : x < y) (hc : decide (d - 1 ≤ e) = true) : rg a e x := by
  have h2 := Int32.lt_iff_toInt_lt.mp h
  have := of_decide_eq_true hc
  exact ⟨hx.1, by have := hy.2; omega⟩
theorem rg_le {a b c d e : Int} {x y : Int32} (hx : rg a b x) (hy : rg c d y) (h : x ≤ y) (hc : decide (d ≤ e) = true) : rg a e x := by
  have h2 := Int32.le_iff_toInt_le.mp h
  have := of_decide_eq_true hc
  exact ⟨hx.1, by have := hy.2; omega⟩
theorem rg_gt {a b c d e : Int} {x y : Int32} (hx : rg a b x) (hy : rg c d y) (h : y < x) (hc : decide (e ≤ c + 1) = true) : rg e b x := by
  have h2 := Int32.lt_iff_toInt_lt.mp h
  have := of_decide_eq_true hc
  exact ⟨by have := hy.1; omega, hx.2⟩
theorem rg_ge {a b c d e : Int} {x y : Int32} (hx : rg a b x) (hy : rg c d y) (h : y ≤ x) (hc : decide (e ≤ c) = true) : rg e b x := by
  have h2 := Int32.le_iff_toInt_le.mp h
  have := of_decide_eq_true hc
  exact ⟨by have := hy.1; omega, hx.2⟩
theorem rg_nlt {x y : Int32} (h : ¬ x < y) : y ≤ x := Int32.le_iff_toInt_le.mpr (Int.not_lt.mp fun z => h (Int32.lt_iff_toInt_lt.mpr z))
theorem rg_nle {x y : Int32} (h : ¬ x ≤ y) : y < x := Int32.lt_iff_toInt_lt.mpr (Int.not_le.mp fun z => h (Int32.le_iff_toInt_le.mpr z))
theorem rg_eq {c d : Int} {x y : Int32} (hy : rg c d y) (h : x = y) : rg c d x := by rw [h]; exact hy
/-- not the highest, not the lowest -/
theorem rg_neH {a b c d : Int} {x y : Int32} (hx : rg a b x) (hy : rg c d y) (h : ¬ x = y) (hc : (decide (c = b) && decide (d = b)) = true) : rg a (b - 1) x := by
  simp only [Bool.and_eq_true, decide_eq_true_eq] at hc
  have h2 : x.toInt ≠ y.toInt := fun z => h (Int32.toInt_inj.mp z)
  obtain ⟨h3, h4⟩ := hx
  obtain ⟨h5, h6⟩ := hy
  exact ⟨h3, by omega⟩
theorem rg_neL {a b c d : Int} {x y : Int32} (hx : rg a b x) (hy : rg c d y) (h : ¬ x = y) (hc : (decide (c = a) && decide (d = a)) = true) : rg (a + 1) b x := by
  simp only [Bool.and_eq_true, decide_eq_true_eq] at hc
  have h2 : x.toInt ≠ y.toInt := fun z => h (Int32.toInt_inj.mp z)
  obtain ⟨h3, h4⟩ := hx
  obtain ⟨h5, h6⟩ := hy
  exact ⟨by omega, h4⟩
