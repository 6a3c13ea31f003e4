/-! the counts of the two worlds, and their few writers -/
theorem gI_pc {SL : sT} {AL : aT} {FL : List Nat} {cnt : cT} {n e m e' : Int} {f0 f : mFn} {g : mGn} (h : gI SL AL FL cnt n e f0 f g) {k : Nat} {v : Int32} (hk : gk0 SL FL [] k = true) (hc : cnt m e' (upd f k v)) : gI SL AL FL cnt m e' f0 (upd f k v) g := by
  have h2 : gI SL AL FL (fun _ _ _ => True) n e f0 (upd f k v) g := gI_p0 (cnt := fun _ _ _ => True) (CL := []) (fun _ _ _ _ _ _ _ => trivial) ⟨h.1, h.2.1, h.2.2.1, trivial⟩ hk
  exact ⟨h2.1, h2.2.1, h2.2.2.1, hc⟩
theorem gI_pd {SL : sT} {AL : aT} {FL : List Nat} {cnt : cT} {n e m e' : Int} {f0 f : mFn} {g : mGn} (h : gI SL AL FL cnt n e f0 f g) {k : Nat} {v : Int32} (i : Nat) {lo hi : Int} (hv : rg lo hi v) (hk : gk1 SL FL [] i k lo hi = true) (hc : cnt m e' (upd f k v)) : gI SL AL FL cnt m e' f0 (upd f k v) g := by
  have h2 : gI SL AL FL (fun _ _ _ => True) n e f0 (upd f k v) g := gI_p1 (cnt := fun _ _ _ => True) (CL := []) (fun _ _ _ _ _ _ _ => trivial) ⟨h.1, h.2.1, h.2.2.1, trivial⟩ i hv hk
  exact ⟨h2.1, h2.2.1, h2.2.2.1, hc⟩
theorem rg_pos {x : Int32} (h : ¬ x ≤ 0) : 0 < x.toInt := by
  have := Int32.lt_iff_toInt_lt.mp (rg_nle h)
  simpa using this
theorem rg_npos {x : Int32} (h : x ≤ 0) : ¬ 0 < x.toInt := by
  have := Int32.le_iff_toInt_le.mp h
  simp at this
  omega
theorem ite_01 (c : Prop) (d : Decidable c) : (0 : Int) ≤ (@ite Int c d 1 0) ∧ (@ite Int c d 1 0) ≤ 1 ∧ 0 ≤ (@ite Int c d 0 1) ∧ (@ite Int c d 0 1) ≤ 1 := by
  by_cases h : c <;> simp [h]
theorem cB0 {n e : Int} {f0 f : mFn} {g : mGn} (h : cI n e f0 f g) : cI n e f0 (upd f 327 0) g := by
  obtain ⟨d1, d2, d3, d4⟩ := id h.2.2.2
  refine gI_pc h (by decide +kernel) ?_
  have q := ite_01 (f 327 = 0) inferInstance
  exact ⟨d1, d2, show (f 325).toInt + (if 0 < (f 329).toInt then 1 else 0) + 0 ≤ n by omega, d4⟩
theorem cS0 {n e : Int} {f0 f : mFn} {g : mGn} (h : cI n e f0 f g) : cI n e f0 (upd f 329 0) g := by
  obtain ⟨d1, d2, d3, d4⟩ := id h.2.2.2
  refine gI_pc h (by decide +kernel) ?_
  have q := ite_01 (0 < (f 329).toInt) inferInstance
  exact ⟨d1, d2, show (f 325).toInt + 0 + (if f 327 = 0 then 0 else 1) ≤ n by omega, d4⟩
theorem cB1 {n e : Int} {f0 f : mFn} {g : mGn} (h : cI n e f0 f g) (hB : n + 1 ≤ 300000000) : cI (n + 1) e f0 (upd f 327 1) g := by
  obtain ⟨d1, d2, d3, d4⟩ := id h.2.2.2
  refine gI_pc h (by decide +kernel) ?_
  have q := ite_01 (f 327 = 0) inferInstance
  exact ⟨by omega, hB, show (f 325).toInt + (if 0 < (f 329).toInt then 1 else 0) + 1 ≤ n + 1 by omega, show (f 72).toInt ≤ 4 * (n + 1) by omega⟩
theorem cSd {n e : Int} {f0 f : mFn} {g : mGn} (h : cI n e f0 f g) (hp : 0 < (f 329).toInt) : cI n e f0 (upd f 329 (f 329 - 1)) g := by
  obtain ⟨d1, d2, d3, d4⟩ := id h.2.2.2
  refine gI_pc h (by decide +kernel) ?_
  have q := ite_01 (0 < (f 329 - 1).toInt) inferInstance
  rw [if_pos hp] at d3
  exact ⟨d1, d2, show (f 325).toInt + (if 0 < (f 329 - 1).toInt then 1 else 0) + (if f 327 = 0 then 0 else 1) ≤ n by omega, d4⟩
/-- one more has arrived: what was sent is over -/
theorem cAr {n e : Int} {f0 f : mFn} {g : mGn} (h : cI n e f0 f g) (hp : 0 < (f 329).toInt) (hz : f 329 - 1 ≤ 0) : cI n e f0 (upd (upd f 329 (f 329 - 1)) 325 (f 325 + 1)) g := by
  obtain ⟨d1, d2, d3, d4⟩ := id h.2.2.2
  have h1 := cSd h hp
  have q := ite_01 (f 327 = 0) inferInstance
  rw [if_pos hp] at d3
  have hr : rg 0 2147483647 (f 325) := gI_s h 3 325 0 2147483647 rfl
  have hr2 : rg 0 299999999 (f 325) := ⟨hr.1, by omega⟩
  have h3 : rg 1 300000000 (f 325 + 1) := rg_add hr2 (rg_c (a := 1) (b := 1) (by decide +kernel)) (by decide +kernel)
  have e1 : (f 325 + 1).toInt = (f 325).toInt + 1 := by
    rw [Int32.toInt_add]
    exact rg_bm (by have := hr2.1; have : (1 : Int32).toInt = 1 := by decide
                    omega) (by have := hr2.2; have : (1 : Int32).toInt = 1 := by decide
                               omega)
  refine gI_pd h1 3 (rg_w (c := 0) (d := 2147483647) h3 (by decide +kernel)) (by decide +kernel) ?_
  refine ⟨d1, d2, ?_, d4⟩
  show (f 325 + 1).toInt + (if 0 < (f 329 - 1).toInt then 1 else 0) + (if f 327 = 0 then 0 else 1) ≤ n
  rw [if_neg (rg_npos hz), e1]
  omega
/-- a byte that waits is sent from now on -/
theorem cCy {n e : Int} {f0 f : mFn} {g : mGn} (h : cI n e f0 f g) (hz : f 329 ≤ 0) (hb : ¬ f 327 = 0) {x y : Int32} : cI n e f0 (upd (upd (upd f 328 x) 329 y) 327 0) g := by
  obtain ⟨d1, d2, d3, d4⟩ := id h.2.2.2
  rw [if_neg (rg_npos hz), if_neg hb] at d3
  have h1 : cI n e f0 (upd f 328 x) g := cP0 h (by decide +kernel)
  have q := ite_01 (0 < y.toInt) inferInstance
  have h2 : gI SLc ALc FLc (fun _ _ _ => True) n e f0 (upd (upd f 328 x) 329 y) g := gI_pc (cnt := fun _ _ _ => True) (n := n) (e := e) ⟨h1.1, h1.2.1, h1.2.2.1, trivial⟩ (by decide +kernel) trivial
  have h3 : gI SLc ALc FLc (fun _ _ _ => True) n e f0 (upd (upd (upd f 328 x) 329 y) 327 0) g := gI_pc (cnt := fun _ _ _ => True) (n := n) (e := e) h2 (by decide +kernel) trivial
  refine ⟨h3.1, h3.2.1, h3.2.2.1, d1, d2, ?_, d4⟩
  show (f 325).toInt + (if 0 < y.toInt then 1 else 0) + 0 ≤ n
  omega
/-- an instruction's delay -/
theorem cDl {n e : Int} {f0 f f1 : mFn} {g g1 : mGn} (h : cI n e f0 f g) (h1 : cI n e f0 f1 g1) {y : Int32} (hy : rg 0 4 y) (hB : n + 1 ≤ 300000000) : cI (n + 1) e f0 (upd f1 72 (f 72 + y)) g1 := by
  obtain ⟨d1, d2, d3, d4⟩ := id h.2.2.2
  obtain ⟨-, -, d5, d6⟩ := id h1.2.2.2
  have hr : rg 0 1200000000 (f 72) := gI_s h 4 72 0 1200000000 rfl
  have e1 : (f 72 + y).toInt = (f 72).toInt + y.toInt := by
    rw [Int32.toInt_add]
    exact rg_bm (by have := hr.1; have := hy.1; omega) (by have := hy.2; omega)
  have h3 : rg 0 1200000000 (f 72 + y) := ⟨by rw [e1]; have := hr.1; have := hy.1; omega, by rw [e1]; have := hy.2; omega⟩
  refine gI_pd h1 4 h3 (by decide +kernel) ?_
  refine ⟨by omega, hB, show (f1 325).toInt + (if 0 < (f1 329).toInt then 1 else 0) + (if f1 327 = 0 then 0 else 1) ≤ n + 1 by omega, ?_⟩
  show (f 72 + y).toInt ≤ 4 * (n + 1)
  rw [e1]; have := hy.2; omega
theorem cD0 {n e : Int} {f0 f : mFn} {g : mGn} (h : cI n e f0 f g) : cI n e f0 (upd f 72 0) g := by
  obtain ⟨d1, d2, d3, d4⟩ := id h.2.2.2
  refine gI_pd h 4 (rg_c (a := 0) (b := 1200000000) (by decide +kernel)) (by decide +kernel) ?_
  exact ⟨d1, d2, d3, show (0 : Int32).toInt ≤ 4 * n by have : (0 : Int32).toInt = 0 := by decide
                                                       omega⟩
theorem rE {n e e' : Int} {f0 f : mFn} {g : mGn} (h : rI n e f0 f g) (h1 : e ≤ e') (h2 : e' ≤ 8000) : rI n e' f0 f g := by
  obtain ⟨a, b, c, d1, d2, d3, d4, d5, d6⟩ := h
  exact ⟨a, b, c, d1, d2, by omega, h2, d5, by omega⟩
theorem rg_z : (0 : Int32).toInt = 0 := by decide
theorem rD0 {n e : Int} {f0 f : mFn} {g : mGn} (h : rI n e f0 f g) : rI n 0 f0 (upd f 37 0) g := by
  obtain ⟨d1, d2, d3, d4, d5, d6⟩ := id h.2.2.2
  refine gI_pd h 14 (rg_c (a := 0) (b := 1200008000) (by decide +kernel)) (by decide +kernel) ?_
  exact ⟨d1, d2, by omega, by omega, d5, show (0 : Int32).toInt ≤ 4 * n + 0 by rw [rg_z]; omega⟩
theorem rDl {n m e e' : Int} {f0 f : mFn} {g : mGn} (h : rI n e f0 f g) {y : Int32} (hy0 : 0 ≤ y.toInt) (hy : y.toInt ≤ 8000) (h1 : n ≤ m) (h2 : m ≤ 300000000) (h3 : 0 ≤ e') (h4 : e' ≤ 8000) (h5 : 4 * n + e + y.toInt ≤ 4 * m + e') : rI m e' f0 (upd f 37 (f 37 + y)) g := by
  obtain ⟨d1, d2, d3, d4, d5, d6⟩ := id h.2.2.2
  have hr : rg 0 1200008000 (f 37) := gI_s h 14 37 0 1200008000 rfl
  have e1 : (f 37 + y).toInt = (f 37).toInt + y.toInt := by
    rw [Int32.toInt_add]
    exact rg_bm (by have := hr.1; omega) (by have := hr.2; omega)
  refine gI_pd h 14 (lo := 0) (hi := 1200008000) ⟨by rw [e1]; have := hr.1; omega, by rw [e1]; omega⟩ (by decide +kernel) ?_
  refine ⟨by omega, h2, h3, h4, ?_, ?_⟩
  · show (f 36).toInt + (if 0 < (f 27).toInt then 1 else 0) + (if f 25 = -1 then 0 else 1) ≤ m
    omega
  · show (f 37 + y).toInt ≤ 4 * m + e'
    rw [e1]; omega
theorem rDl4 {n e : Int} {f0 f : mFn} {g : mGn} (h : rI n e f0 f g) (hB : n + 1 ≤ 300000000) : rI (n + 1) e f0 (upd f 37 (f 37 + 4)) g := by
  have q : (4 : Int32).toInt = 4 := by decide
  obtain ⟨d1, d2, d3, d4, d5, d6⟩ := id h.2.2.2
  exact rDl h (by omega) (by omega) (by omega) hB d3 d4 (by omega)
theorem rD8 {n : Int} {f0 f : mFn} {g : mGn} (h : rI n 0 f0 f g) : rI n 8000 f0 (upd f 37 (f 37 + 8000)) g := by
  have q : (8000 : Int32).toInt = 8000 := by decide
  obtain ⟨d1, d2, d3, d4, d5, d6⟩ := id h.2.2.2
  exact rDl h (by omega) (by omega) (by omega) d2 (by omega) (by omega) (by omega)
theorem rW0 {n e : Int} {f0 f : mFn} {g : mGn} (h : rI n e f0 f g) : rI n e f0 (upd f 25 (-1)) g := by
  obtain ⟨d1, d2, d3, d4, d5, d6⟩ := id h.2.2.2
  refine gI_pd h 6 (rg_c (a := -1) (b := 255) (by decide +kernel)) (by decide +kernel) ?_
  have q := ite_01 (f 25 = -1) inferInstance
  exact ⟨d1, d2, d3, d4, show (f 36).toInt + (if 0 < (f 27).toInt then 1 else 0) + 0 ≤ n by omega, d6⟩
theorem rS0 {n e : Int} {f0 f : mFn} {g : mGn} (h : rI n e f0 f g) : rI n e f0 (upd f 27 0) g := by
  obtain ⟨d1, d2, d3, d4, d5, d6⟩ := id h.2.2.2
  refine gI_pc h (by decide +kernel) ?_
  have q := ite_01 (0 < (f 27).toInt) inferInstance
  exact ⟨d1, d2, d3, d4, show (f 36).toInt + 0 + (if f 25 = -1 then 0 else 1) ≤ n by omega, d6⟩
theorem rW1 {n e : Int} {f0 f : mFn} {g : mGn} (h : rI n e f0 f g) {v : Int32} (hv : rg 0 255 v) (hB : n + 1 ≤ 300000000) : rI (n + 1) e f0 (upd f 25 v) g := by
  obtain ⟨d1, d2, d3, d4, d5, d6⟩ := id h.2.2.2
  refine gI_pd h 6 (rg_w (c := -1) (d := 255) hv (by decide +kernel)) (by decide +kernel) ?_
  have q := ite_01 (f 25 = -1) inferInstance
  have q2 := ite_01 (v = -1) inferInstance
  exact ⟨by omega, hB, d3, d4, show (f 36).toInt + (if 0 < (f 27).toInt then 1 else 0) + (if v = -1 then 0 else 1) ≤ n + 1 by omega, show (f 37).toInt ≤ 4 * (n + 1) + e by omega⟩
theorem lp_m {N : Int} {k : Int32} {t : Nat} (hk : rg (-2147483648) (N - 1) k) (h : (N - k.toInt).toNat < t + 1) (hN : N ≤ 2147483647 := by decide) : (N - (k + 1).toInt).toNat < t := by
  have q : (1 : Int32).toInt = 1 := by decide
  have e1 : (k + 1).toInt = k.toInt + 1 := by
    rw [Int32.toInt_add, q]
    exact rg_bm (by have := hk.1; omega) (by have := hk.2; omega)
  have := hk.2
  omega
theorem rg_no {a b : Int} {x : Int32} (h : rg a b x) (hc : decide (b < a) = true) : False := by
  have := of_decide_eq_true hc
  have := h.1
  have := h.2
  omega
theorem rg_eqN {a b c d : Int} {x y : Int32} (hx : rg a b x) (hy : rg c d y) (h : x = y) (hc : (decide (b < c) || decide (d < a)) = true) : rg 1 0 x := by
  simp only [Bool.or_eq_true, decide_eq_true_eq] at hc
  subst h
  have h1 := hx.1
  have h2 := hx.2
  have h3 := hy.1
  have h4 := hy.2
  omega
theorem rg_neN {a b c d : Int} {x y : Int32} (hx : rg a b x) (hy : rg c d y) (h : ¬ x = y) (hc : (decide (a = b) && decide (c = d) && decide (a = c)) = true) : rg 1 0 x := by
  simp only [Bool.and_eq_true, decide_eq_true_eq] at hc
  exfalso
  apply h
  apply Int32.toInt_inj.mp
  have h1 := hx.1
  have h2 := hx.2
  have h3 := hy.1
  have h4 := hy.2
  omega
theorem inc1 {k : Int32} {a b : Int} (h : rg a b k) (hc : decide (b ≤ 2147483646) = true) : (k + 1).toInt = k.toInt + 1 := by
  have q : (1 : Int32).toInt = 1 := by decide
  have h1 := k.le_toInt
  have h2 := h.2
  have := of_decide_eq_true hc
  rw [Int32.toInt_add, q]
  exact rg_bm (by omega) (by omega)
theorem rSd {n e : Int} {f0 f : mFn} {g : mGn} (h : rI n e f0 f g) (hp : 0 < (f 27).toInt) : rI n e f0 (upd f 27 (f 27 - 1)) g := by
  obtain ⟨d1, d2, d3, d4, d5, d6⟩ := id h.2.2.2
  refine gI_pc h (by decide +kernel) ?_
  have q := ite_01 (0 < (f 27 - 1).toInt) inferInstance
  rw [if_pos hp] at d5
  exact ⟨d1, d2, d3, d4, show (f 36).toInt + (if 0 < (f 27 - 1).toInt then 1 else 0) + (if f 25 = -1 then 0 else 1) ≤ n by omega, d6⟩
theorem rAr {n e : Int} {f0 f : mFn} {g : mGn} (h : rI n e f0 f g) (hp : 0 < (f 27).toInt) (hz : f 27 - 1 = 0) : rI n e f0 (upd (upd f 27 (f 27 - 1)) 36 (f 36 + 1)) g := by
  obtain ⟨d1, d2, d3, d4, d5, d6⟩ := id h.2.2.2
  have h1 := rSd h hp
  have q := ite_01 (f 25 = -1) inferInstance
  rw [if_pos hp] at d5
  have hr : rg 0 2147483647 (f 36) := gI_s h 13 36 0 2147483647 rfl
  have hr2 : rg 0 299999999 (f 36) := ⟨hr.1, by omega⟩
  have h3 : rg 1 300000000 (f 36 + 1) := rg_add hr2 (rg_c (a := 1) (b := 1) (by decide +kernel)) (by decide +kernel)
  have e1 := inc1 hr2 (by decide +kernel)
  refine gI_pd h1 13 (rg_w (c := 0) (d := 2147483647) h3 (by decide +kernel)) (by decide +kernel) ?_
  refine ⟨d1, d2, d3, d4, ?_, d6⟩
  show (f 36 + 1).toInt + (if 0 < (f 27 - 1).toInt then 1 else 0) + (if f 25 = -1 then 0 else 1) ≤ n
  rw [if_neg (by rw [hz, rg_z]; omega), e1]
  omega
theorem rCy {n e : Int} {f0 f : mFn} {g : mGn} (h : rI n e f0 f g) (hz : f 27 = 0) (hb : ¬ f 25 = -1) {x y : Int32} (hx : rg 0 255 x) : rI n e f0 (upd (upd (upd f 26 x) 25 (-1)) 27 y) g := by
  obtain ⟨d1, d2, d3, d4, d5, d6⟩ := id h.2.2.2
  rw [hz, if_neg (by rw [rg_z]; omega), if_neg hb] at d5
  have q := ite_01 (0 < y.toInt) inferInstance
  have h1 : rI n e f0 (upd f 26 x) g := rP1 7 hx h (by decide +kernel)
  have h2 := rW0 h1
  refine gI_pc h2 (by decide +kernel) ?_
  refine ⟨d1, d2, d3, d4, ?_, d6⟩
  show (f 36).toInt + (if 0 < y.toInt then 1 else 0) + 0 ≤ n
  omega
theorem rg_us {a b : Int} {f : mFn} {k : Nat} {v : Int32} (h : rg a b v) : rg a b (upd f k v k) := by rw [pk_us]; exact h
theorem cFr {n e : Int} {f0 f : mFn} {g : mGn} (h : cI n e f0 f g) {v : Int32} : cI n e (upd f0 70 v) (upd f 70 v) g := by
  obtain ⟨a, b, c, d⟩ := h
  refine ⟨fun q hq => ?_, b, fun k hk => ?_, cnc_k n e f 70 v (by decide) d⟩
  · have hne : ∀ q ∈ SLc, q.1 ≠ 70 := by decide
    rw [pk_un (hne q hq)]; exact a q hq
  · by_cases z : k = 70
    · subst z; rw [pk_us, pk_us]
    · rw [pk_un z, pk_un z]; exact c k hk
theorem cFw {n e : Int} {f0 f : mFn} {g : mGn} (h : cI n e f0 f g) {v : Int32} (hv : rg 0 1 v) : cI n e (upd f0 2 v) (upd f 2 v) g := by
  obtain ⟨a, b, c, d⟩ := h
  have a2 : ∀ q ∈ SLc, rg q.2.1 q.2.2 (upd f 2 v q.1) := by
    intro q hq
    by_cases z : q.1 = 2
    · have e2 : q = (2, 0, 1) := by revert z; revert hq; revert q; decide
      subst e2; rw [pk_us]; exact hv
    · rw [pk_un z]; exact a q hq
  refine ⟨a2, b, fun k hk => ?_, cnc_k n e f 2 v (by decide) d⟩
  by_cases z : k = 2
  · subst z; rw [pk_us, pk_us]
  · rw [pk_un z, pk_un z]; exact c k hk
theorem rFr {n e : Int} {f0 f : mFn} {g : mGn} (h : rI n e f0 f g) {v : Int32} (hv : rg 0 255 v) : rI n e (upd f0 8 v) (upd f 8 v) g := by
  obtain ⟨a, b, c, d⟩ := h
  have a2 : ∀ q ∈ SLr, rg q.2.1 q.2.2 (upd f 8 v q.1) := by
    intro q hq
    by_cases z : q.1 = 8
    · have e2 : q = (8, 0, 255) := by revert z; revert hq; revert q; decide
      subst e2; rw [pk_us]; exact hv
    · rw [pk_un z]; exact a q hq
  refine ⟨a2, b, fun k hk => ?_, cnr_k n e f 8 v (by decide) d⟩
  by_cases z : k = 8
  · subst z; rw [pk_us, pk_us]
  · rw [pk_un z, pk_un z]; exact c k hk
theorem rFw {n e : Int} {f0 f : mFn} {g : mGn} (h : rI n e f0 f g) {v : Int32} (hv : rg 0 1 v) : rI n e (upd f0 9 v) (upd f 9 v) g := by
  obtain ⟨a, b, c, d⟩ := h
  have a2 : ∀ q ∈ SLr, rg q.2.1 q.2.2 (upd f 9 v q.1) := by
    intro q hq
    by_cases z : q.1 = 9
    · have e2 : q = (9, 0, 1) := by revert z; revert hq; revert q; decide
      subst e2; rw [pk_us]; exact hv
    · rw [pk_un z]; exact a q hq
  refine ⟨a2, b, fun k hk => ?_, cnr_k n e f 9 v (by decide) d⟩
  by_cases z : k = 9
  · subst z; rw [pk_us, pk_us]
  · rw [pk_un z, pk_un z]; exact c k hk
