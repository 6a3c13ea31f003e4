def SPX9_nines (S : mSp) : Prop := ∀ (n e : Int) (f0 f : mFn) (g : mGn) (K : mKr) (x1 : Int32), rg 0 65535 x1 → n + 2 ≤ 300000000 → rI n 0 f0 f g → (∀ (y : Int32) (f' : mFn) (g' : mGn), rg 1 4 y → rI (n + 2) 8000 f0 f' g' → K (some (.inl y)) f' g') → S [.inr 0, .inl x1] f g K
set_option maxRecDepth 100000 in
set_option maxHeartbeats 4000000 in
theorem sfX9_nines : SPX9_nines spX9_nines := by
  intro n e f0 f g K x1 hx1 hB hI hK
  refine ⟨rfl, fun X hX => ?_⟩
  obtain ⟨S_X9_loads, k_X9_loads, S_X9_stores, k_X9_stores, S_X9_single, k_X9_single, S_X9_pairs, k_X9_pairs, S_X9_portBits, k_X9_portBits, S_X9_product, k_X9_product, hX⟩ : ∃ S_X9_loads, SPX9_loads S_X9_loads ∧ ∃ S_X9_stores, SPX9_stores S_X9_stores ∧ ∃ S_X9_single, SPX9_single S_X9_single ∧ ∃ S_X9_pairs, SPX9_pairs S_X9_pairs ∧ ∃ S_X9_portBits, SPX9_portBits S_X9_portBits ∧ ∃ S_X9_product, SPX9_product S_X9_product ∧ mR shM fdX9_nines [(312, 0, 1, 12, S_X9_loads), (315, 0, 1, 12, S_X9_stores), (318, 0, 1, 12, S_X9_single), (321, 0, 1, 12, S_X9_pairs), (324, 0, 1, 12, S_X9_portBits), (305, 0, 2, 12, S_X9_product)] bsX9_nines (fun r f g => mRt (some .int) r ∧ K r f g) X := ⟨spX9_loads, sfX9_loads, spX9_stores, sfX9_stores, spX9_single, sfX9_single, spX9_pairs, sfX9_pairs, spX9_portBits, sfX9_portBits, spX9_product, sfX9_product, hX⟩
  have b68 : ∀ (a1 : Int32) (f : mFn) (g : mGn), rg 0 65535 a1 → rI n 0 f0 f g → X 68 [(0, .inr 0), (1, .inl a1)] [] f g := by
    intro a1 f g ha1 hI
    refine hX.1 5 _ rfl _ _ _ _ ?_
    refine k_X9_portBits n 0 f0 _ _ _ _ (rg_w (c := 0) (d := 65535) ha1 (by decide +kernel)) (by omega) hI (fun y25 f26 gf26 hy25 hI27 => ?_)
    exact And.intro mRt_i (hK _ _ _ (rg_w (c := 1) (d := 4) hy25 (by decide +kernel)) (rE (rM hI27 (by omega) (by omega)) (by omega) (by omega)))
  refine hX.1 0 _ rfl _ _ _ _ ?_
  refine And.intro (fun c28 => ?_) (fun c28 => ?_)
  · -- 44
    refine hX.1 1 _ rfl _ _ _ _ ?_
    refine k_X9_loads n 0 f0 _ _ _ _ (rg_w (c := 0) (d := 65535) hx1 (by decide +kernel)) hI (fun y29 f30 gf30 hy29 hI31 => ?_)
    exact And.intro mRt_i (hK _ _ _ (rg_w (c := 1) (d := 4) hy29 (by decide +kernel)) (rE (rM hI31 (by omega) (by omega)) (by omega) (by omega)))
  · -- on
    refine And.intro (fun c32 => ?_) (fun c32 => ?_)
    · -- 50
      refine hX.1 2 _ rfl _ _ _ _ ?_
      refine k_X9_stores n 0 f0 _ _ _ _ (rg_w (c := 0) (d := 65535) hx1 (by decide +kernel)) (by omega) hI (fun y33 f34 gf34 hy33 hI35 => ?_)
      exact And.intro mRt_i (hK _ _ _ (rg_w (c := 1) (d := 4) hy33 (by decide +kernel)) (rE (rM hI35 (by omega) (by omega)) (by omega) (by omega)))
    · -- on
      refine And.intro (fun c36 => ?_) (fun c36 => ?_)
      · -- 56
        refine hX.1 3 _ rfl _ _ _ _ ?_
        refine k_X9_single n 0 f0 _ _ _ _ (rg_w (c := 0) (d := 65535) hx1 (by decide +kernel)) (by omega) hI (fun y37 f38 gf38 hy37 hI39 => ?_)
        exact And.intro mRt_i (hK _ _ _ (rg_w (c := 1) (d := 4) hy37 (by decide +kernel)) hI39)
      · -- on
        refine And.intro (fun c40 => ?_) (fun c40 => ?_)
        · -- 62
          refine hX.1 4 _ rfl _ _ _ _ ?_
          refine k_X9_pairs n 0 f0 _ _ _ _ (rg_w (c := 0) (d := 65535) hx1 (by decide +kernel)) hI (fun y41 f42 gf42 hy41 hI43 => ?_)
          exact And.intro mRt_i (hK _ _ _ (rg_w (c := 1) (d := 4) hy41 (by decide +kernel)) (rE (rM hI43 (by omega) (by omega)) (by omega) (by omega)))
        · -- on
          refine And.intro (fun c44 => ?_) (fun c44 => ?_)
          · -- 68
            exact hX.2 _ _ [(0, .inr 0), (1, .inl _)] _ _ _ (mWc rfl (mWc rfl mW0)) (b68 _ _ _ (rg_w (c := 0) (d := 65535) hx1 (by decide +kernel)) hI)
          · -- on
            refine And.intro (fun c45 => ?_) (fun c45 => ?_)
            · -- 68
              exact hX.2 _ _ [(0, .inr 0), (1, .inl _)] _ _ _ (mWc rfl (mWc rfl mW0)) (b68 _ _ _ (rg_w (c := 0) (d := 65535) hx1 (by decide +kernel)) hI)
            · -- on
              refine hX.1 6 _ rfl _ _ _ _ ?_
              refine And.intro (rg_in (show rg 0 31 _ from (rg_andR (rg_c (a := 31) (b := 31) (by decide +kernel)) (by decide +kernel))) (by decide +kernel)) ?_
              refine And.intro (rg_in (show rg 0 31 _ from (rg_or (k := 5) (show rg 0 15 _ from (rg_andR (rg_c (a := 15) (b := 15) (by decide +kernel)) (by decide +kernel))) (show rg 0 16 _ from (rg_andR (rg_c (a := 16) (b := 16) (by decide +kernel)) (by decide +kernel))) (by decide +kernel))) (by decide +kernel)) ?_
              refine k_X9_product n 0 f0 _ _ _ _ _ (rg_w (c := 0) (d := 1) (rg_c (a := 0) (b := 0) (by decide +kernel)) (by decide +kernel)) hI (fun f47 gf47 hI48 => ?_)
              exact And.intro mRt_i (hK _ _ _ (rg_w (c := 1) (d := 4) (rg_c (a := 2) (b := 2) (by decide +kernel)) (by decide +kernel)) (rE (rM hI48 (by omega) (by omega)) (by omega) (by omega)))
def SPX9_ports (S : mSp) : Prop := ∀ (n e : Int) (f0 f : mFn) (g : mGn) (K : mKr) (x1 : Int32), rg 0 65535 x1 → n + 1 ≤ 300000000 → rI n e f0 f g → (∀ (y : Int32) (f' : mFn) (g' : mGn), rg 1 1 y → rI (n + 1) e f0 f' g' → K (some (.inl y)) f' g') → S [.inr 0, .inl x1] f g K
set_option maxRecDepth 100000 in
set_option maxHeartbeats 4000000 in
theorem sfX9_ports : SPX9_ports spX9_ports := by
  intro n e f0 f g K x1 hx1 hB hI hK
  refine ⟨rfl, fun X hX => ?_⟩
  obtain ⟨S_X9_store, k_X9_store, S_X9_load, k_X9_load, hX⟩ : ∃ S_X9_store, SPX9_store S_X9_store ∧ ∃ S_X9_load, SPX9_load S_X9_load ∧ mR shM fdX9_ports [(234, 0, 2, 12, S_X9_store), (241, 0, 1, 12, S_X9_load)] bsX9_ports (fun r f g => mRt (some .int) r ∧ K r f g) X := ⟨spX9_store, sfX9_store, spX9_load, sfX9_load, hX⟩
  have b55 : ∀ (f : mFn) (g : mGn), rI (n + 1) e f0 f g → X 55 [] [] f g := by
    intro f g  hI
    refine hX.1 2 _ rfl _ _ _ _ ?_
    exact And.intro mRt_i (hK _ _ _ (rg_w (c := 1) (d := 1) (rg_c (a := 1) (b := 1) (by decide +kernel)) (by decide +kernel)) hI)
  refine hX.1 0 _ rfl _ _ _ _ ?_
  refine And.intro (fun c9 => ?_) (fun c9 => ?_)
  · -- 44
    refine hX.1 1 _ rfl _ _ _ _ ?_
    refine k_X9_load n e f0 _ _ _ _ (rg_w (c := 0) (d := 65535) (show rg 32 95 _ from (rg_add (rg_c (a := 32) (b := 32) (by decide +kernel)) (show rg 0 63 _ from (rg_or (k := 6) (show rg 0 15 _ from (rg_andR (rg_c (a := 15) (b := 15) (by decide +kernel)) (by decide +kernel))) (show rg 0 48 _ from (rg_andR (rg_c (a := 48) (b := 48) (by decide +kernel)) (by decide +kernel))) (by decide +kernel))) (by decide +kernel))) (by decide +kernel)) hI (fun y10 f11 gf11 hy10 hI12 => ?_)
    refine And.intro (rg_in (show rg 0 31 _ from (rg_andR (rg_c (a := 31) (b := 31) (by decide +kernel)) (by decide +kernel))) (by decide +kernel)) ?_
    exact hX.2 _ _ [] _ _ _ mW0 (b55  _ _  (rM (gI_a1 hI12 2 1280 (lo := 0) (hi := 255) (rg_w (c := 0) (d := 255) hy10 (by decide +kernel)) (by decide +kernel)) (by omega) (by omega)))
  · -- on
    refine And.intro (rg_in (show rg 0 31 _ from (rg_andR (rg_c (a := 31) (b := 31) (by decide +kernel)) (by decide +kernel))) (by decide +kernel)) ?_
    refine k_X9_store n e f0 _ _ _ _ _ (rg_w (c := 0) (d := 65535) (show rg 32 95 _ from (rg_add (rg_c (a := 32) (b := 32) (by decide +kernel)) (show rg 0 63 _ from (rg_or (k := 6) (show rg 0 15 _ from (rg_andR (rg_c (a := 15) (b := 15) (by decide +kernel)) (by decide +kernel))) (show rg 0 48 _ from (rg_andR (rg_c (a := 48) (b := 48) (by decide +kernel)) (by decide +kernel))) (by decide +kernel))) (by decide +kernel))) (by decide +kernel)) (rg_w (c := 0) (d := 255) (gI_g hI 2 3 1280 0 255 rfl (rg_in (show rg 0 31 _ from (rg_andR (rg_c (a := 31) (b := 31) (by decide +kernel)) (by decide +kernel))) (by decide +kernel))) (by decide +kernel)) (by omega) hI (fun f15 gf15 hI16 => ?_)
    exact hX.2 _ _ [] _ _ _ mW0 (b55  _ _  hI16)
def SPX9_relative (S : mSp) : Prop := ∀ (n e : Int) (f0 f : mFn) (g : mGn) (K : mKr) (x1 : Int32), rg 0 65535 x1 → n + 2 ≤ 300000000 → rI n e f0 f g → (∀ (y : Int32) (f' : mFn) (g' : mGn), rg 2 3 y → rI (n + 2) e f0 f' g' → K (some (.inl y)) f' g') → S [.inr 0, .inl x1] f g K
set_option maxRecDepth 100000 in
set_option maxHeartbeats 4000000 in
theorem sfX9_relative : SPX9_relative spX9_relative := by
  intro n e f0 f g K x1 hx1 hB hI hK
  refine ⟨rfl, fun X hX => ?_⟩
  obtain ⟨S_X9_pushPlace, k_X9_pushPlace, hX⟩ : ∃ S_X9_pushPlace, SPX9_pushPlace S_X9_pushPlace ∧ mR shM fdX9_relative [(169, 0, 1, 12, S_X9_pushPlace)] bsX9_relative (fun r f g => mRt (some .int) r ∧ K r f g) X := ⟨spX9_pushPlace, sfX9_pushPlace, hX⟩
  have b51 : ∀ (s0 : Int32) (f : mFn) (g : mGn), rg 2 3 s0 → rI (n + 2) e f0 f g → X 51 [] [.inl s0] f g := by
    intro s0 f g hs0 hI
    refine hX.1 3 _ rfl _ _ _ _ ?_
    exact And.intro mRt_i (hK _ _ _ (rg_w (c := 2) (d := 3) hs0 (by decide +kernel)) hI)
  have b23 : ∀ (a1 : Int32) (a2 : Int32) (f : mFn) (g : mGn), rg 0 65535 a1 → rg 0 4095 a2 → rI (n + 2) e f0 f g → X 23 [(0, .inr 0), (1, .inl a1), (2, .inl a2)] [] f g := by
    intro a1 a2 f g ha1 ha2 hI
    refine hX.1 1 _ rfl _ _ _ _ ?_
    refine And.intro (fun c8 => ?_) (fun c8 => ?_)
    · -- 50
      refine hX.1 2 _ rfl _ _ _ _ ?_
      exact hX.2 _ _ [] _ _ _ mW0 (b51 _ _ _ (rg_w (c := 2) (d := 3) (rg_c (a := 2) (b := 2) (by decide +kernel)) (by decide +kernel)) (rP1 5 (rg_w (c := 0) (d := 2047) (show rg 0 2047 _ from (rg_andR (rg_c (a := 2047) (b := 2047) (by decide +kernel)) (by decide +kernel))) (by decide +kernel)) hI (by decide +kernel)))
    · -- on
      exact hX.2 _ _ [] _ _ _ mW0 (b51 _ _ _ (rg_w (c := 2) (d := 3) (rg_c (a := 3) (b := 3) (by decide +kernel)) (by decide +kernel)) (rP1 5 (rg_w (c := 0) (d := 2047) (show rg 0 2047 _ from (rg_andR (rg_c (a := 2047) (b := 2047) (by decide +kernel)) (by decide +kernel))) (by decide +kernel)) hI (by decide +kernel)))
  refine hX.1 0 _ rfl _ _ _ _ ?_
  refine And.intro (fun c9 => ?_) (fun c9 => ?_)
  · -- 23
    exact hX.2 _ _ [(0, .inr 0), (1, .inl _), (2, .inl _)] _ _ _ (mWc rfl (mWc rfl (mWc rfl mW0))) (b23 _ _ _ _ (rg_w (c := 0) (d := 65535) hx1 (by decide +kernel)) (rg_w (c := 0) (d := 4095) (show rg 0 4095 _ from (rg_andR (rg_c (a := 4095) (b := 4095) (by decide +kernel)) (by decide +kernel))) (by decide +kernel)) (rM hI (by omega) (by omega)))
  · -- on
    refine k_X9_pushPlace n e f0 _ _ _ _ (rg_w (c := 0) (d := 2047) (gI_s hI 5 12 0 2047 rfl) (by decide +kernel)) (by omega) hI (fun f11 gf11 hI12 => ?_)
    exact hX.2 _ _ [(0, .inr 0), (1, .inl _), (2, .inl _)] _ _ _ (mWc rfl (mWc rfl (mWc rfl mW0))) (b23 _ _ _ _ (rg_w (c := 0) (d := 65535) hx1 (by decide +kernel)) (rg_w (c := 0) (d := 4095) (show rg 0 4095 _ from (rg_andR (rg_c (a := 4095) (b := 4095) (by decide +kernel)) (by decide +kernel))) (by decide +kernel)) hI12)
def SPX9_instruction (S : mSp) : Prop := ∀ (n e : Int) (f0 f : mFn) (g : mGn) (K : mKr), n + 2 ≤ 300000000 → rI n e f0 f g → (∀ (y : Int32) (f' : mFn) (g' : mGn), rg 1 1200008004 y → rI (n + 2) 8000 f0 f' g' → K (some (.inl y)) f' g') → S [.inr 0] f g K
set_option maxRecDepth 100000 in
set_option maxHeartbeats 4000000 in
theorem sfX9_instruction : SPX9_instruction spX9_instruction := by
  intro n e f0 f g K   hB hI hK
  refine ⟨rfl, fun X hX => ?_⟩
  obtain ⟨S_X9_next, k_X9_next, S_X9_ofTwo, k_X9_ofTwo, S_X9_ofNumber, k_X9_ofNumber, S_X9_nines, k_X9_nines, S_X9_displaced, k_X9_displaced, S_X9_ports, k_X9_ports, S_X9_bits, k_X9_bits, S_X9_relative, k_X9_relative, hX⟩ : ∃ S_X9_next, SPX9_next S_X9_next ∧ ∃ S_X9_ofTwo, SPX9_ofTwo S_X9_ofTwo ∧ ∃ S_X9_ofNumber, SPX9_ofNumber S_X9_ofNumber ∧ ∃ S_X9_nines, SPX9_nines S_X9_nines ∧ ∃ S_X9_displaced, SPX9_displaced S_X9_displaced ∧ ∃ S_X9_ports, SPX9_ports S_X9_ports ∧ ∃ S_X9_bits, SPX9_bits S_X9_bits ∧ ∃ S_X9_relative, SPX9_relative S_X9_relative ∧ mR shM fdX9_instruction [(259, 0, 0, 12, S_X9_next), (262, 0, 1, 12, S_X9_ofTwo), (265, 0, 1, 12, S_X9_ofNumber), (268, 0, 1, 12, S_X9_nines), (273, 0, 1, 12, S_X9_displaced), (276, 0, 1, 12, S_X9_ports), (279, 0, 1, 12, S_X9_bits), (282, 0, 1, 12, S_X9_relative)] bsX9_instruction (fun r f g => mRt (some .int) r ∧ K r f g) X := ⟨spX9_next, sfX9_next, spX9_ofTwo, sfX9_ofTwo, spX9_ofNumber, sfX9_ofNumber, spX9_nines, sfX9_nines, spX9_displaced, sfX9_displaced, spX9_ports, sfX9_ports, spX9_bits, sfX9_bits, spX9_relative, sfX9_relative, hX⟩
  have b136 : ∀ (s0 : Int32) (f : mFn) (g : mGn), rg 1 4 s0 → rI (n + 2) 8000 f0 f g → X 136 [(0, .inr 0)] [.inl s0] f g := by
    intro s0 f g hs0 hI
    refine hX.1 8 _ rfl _ _ _ _ ?_
    exact And.intro mRt_i (hK _ _ _ (rg_w (c := 1) (d := 1200008004) (show rg 1 1200008004 _ from (rg_add hs0 (gI_s hI 14 37 0 1200008000 rfl) (by decide +kernel))) (by decide +kernel)) hI)
  have b53 : ∀ (a1 : Int32) (f : mFn) (g : mGn), rg 0 65535 a1 → rI n 0 f0 f g → X 53 [(0, .inr 0), (1, .inl a1)] [] f g := by
    intro a1 f g ha1 hI
    refine hX.1 2 _ rfl _ _ _ _ ?_
    refine k_X9_ofNumber n 0 f0 _ _ _ _ (rg_w (c := 0) (d := 65535) ha1 (by decide +kernel)) hI (fun y34 f35 gf35 hy34 hI36 => ?_)
    exact hX.2 _ _ [(0, .inr 0)] _ _ _ (mWc rfl mW0) (b136 _ _ _ (rg_w (c := 1) (d := 4) hy34 (by decide +kernel)) (rE (rM hI36 (by omega) (by omega)) (by omega) (by omega)))
  refine hX.1 0 _ rfl _ _ _ _ ?_
  refine k_X9_next n 0 f0 _ _ _  (rD0 (rP0 hI (by decide +kernel))) (fun y39 f40 gf40 hy39 hI41 => ?_)
  refine And.intro (fun c42 => ?_) (fun c42 => ?_)
  · -- 35
    refine hX.1 1 _ rfl _ _ _ _ ?_
    refine And.intro (fun c43 => ?_) (fun c43 => ?_)
    · -- 53
      exact hX.2 _ _ [(0, .inr 0), (1, .inl _)] _ _ _ (mWc rfl (mWc rfl mW0)) (b53 _ _ _ (rg_w (c := 0) (d := 65535) hy39 (by decide +kernel)) hI41)
    · -- on
      refine And.intro (fun c44 => ?_) (fun c44 => ?_)
      · -- 61
        refine hX.1 3 _ rfl _ _ _ _ ?_
        refine And.intro (fun c45 => ?_) (fun c45 => ?_)
        · -- 78
          refine hX.1 4 _ rfl _ _ _ _ ?_
          refine And.intro (fun c46 => ?_) (fun c46 => ?_)
          · -- 97
            refine hX.1 5 _ rfl _ _ _ _ ?_
            refine And.intro (fun c47 => ?_) (fun c47 => ?_)
            · -- 114
              refine hX.1 6 _ rfl _ _ _ _ ?_
              refine And.intro (fun c48 => ?_) (fun c48 => ?_)
              · -- 131
                refine hX.1 7 _ rfl _ _ _ _ ?_
                refine k_X9_relative n 0 f0 _ _ _ _ (rg_w (c := 0) (d := 65535) hy39 (by decide +kernel)) (by omega) hI41 (fun y49 f50 gf50 hy49 hI51 => ?_)
                exact hX.2 _ _ [(0, .inr 0)] _ _ _ (mWc rfl mW0) (b136 _ _ _ (rg_w (c := 1) (d := 4) hy49 (by decide +kernel)) (rE hI51 (by omega) (by omega)))
              · -- on
                refine k_X9_bits n 0 f0 _ _ _ _ (rg_w (c := 0) (d := 65535) hy39 (by decide +kernel)) hI41 (fun y52 f53 gf53 hy52 hI54 => ?_)
                exact hX.2 _ _ [(0, .inr 0)] _ _ _ (mWc rfl mW0) (b136 _ _ _ (rg_w (c := 1) (d := 4) hy52 (by decide +kernel)) (rE (rM hI54 (by omega) (by omega)) (by omega) (by omega)))
            · -- on
              refine k_X9_ports n 0 f0 _ _ _ _ (rg_w (c := 0) (d := 65535) hy39 (by decide +kernel)) (by omega) hI41 (fun y55 f56 gf56 hy55 hI57 => ?_)
              exact hX.2 _ _ [(0, .inr 0)] _ _ _ (mWc rfl mW0) (b136 _ _ _ (rg_w (c := 1) (d := 4) hy55 (by decide +kernel)) (rE (rM hI57 (by omega) (by omega)) (by omega) (by omega)))
          · -- on
            refine k_X9_displaced n 0 f0 _ _ _ _ (rg_w (c := 0) (d := 65535) hy39 (by decide +kernel)) (by omega) hI41 (fun y58 f59 gf59 hy58 hI60 => ?_)
            exact hX.2 _ _ [(0, .inr 0)] _ _ _ (mWc rfl mW0) (b136 _ _ _ (rg_w (c := 1) (d := 4) hy58 (by decide +kernel)) (rE (rM hI60 (by omega) (by omega)) (by omega) (by omega)))
        · -- on
          refine k_X9_nines n 0 f0 _ _ _ _ (rg_w (c := 0) (d := 65535) hy39 (by decide +kernel)) (by omega) hI41 (fun y61 f62 gf62 hy61 hI63 => ?_)
          exact hX.2 _ _ [(0, .inr 0)] _ _ _ (mWc rfl mW0) (b136 _ _ _ (rg_w (c := 1) (d := 4) hy61 (by decide +kernel)) hI63)
      · -- on
        exact hX.2 _ _ [(0, .inr 0), (1, .inl _)] _ _ _ (mWc rfl (mWc rfl mW0)) (b53 _ _ _ (rg_w (c := 0) (d := 65535) hy39 (by decide +kernel)) hI41)
  · -- on
    refine k_X9_ofTwo n 0 f0 _ _ _ _ (rg_w (c := 0) (d := 65535) hy39 (by decide +kernel)) hI41 (fun y64 f65 gf65 hy64 hI66 => ?_)
    exact hX.2 _ _ [(0, .inr 0)] _ _ _ (mWc rfl mW0) (b136 _ _ _ (rg_w (c := 1) (d := 4) hy64 (by decide +kernel)) (rE (rM hI66 (by omega) (by omega)) (by omega) (by omega)))
def SPX9_line (S : mSp) : Prop := ∀ (n e : Int) (f0 f : mFn) (g : mGn) (K : mKr), rI n e f0 f g → (∀ (f' : mFn) (g' : mGn), rI n e f0 f' g' → K none f' g') → S [.inr 0] f g K
set_option maxRecDepth 100000 in
set_option maxHeartbeats 4000000 in
theorem sfX9_line : SPX9_line spX9_line := by
  intro n e f0 f g K   hI hK
  refine ⟨rfl, fun X hX => ?_⟩
  obtain ⟨S_X9_frame, k_X9_frame, S_X9_showReceived, k_X9_showReceived, hX⟩ : ∃ S_X9_frame, SPX9_frame S_X9_frame ∧ ∃ S_X9_showReceived, SPX9_showReceived S_X9_showReceived ∧ mR shM fdX9_line [(198, 0, 0, 12, S_X9_frame), (141, 0, 0, 12, S_X9_showReceived)] bsX9_line (fun r f g => mRt none r ∧ K r f g) X := ⟨spX9_frame, sfX9_frame, spX9_showReceived, sfX9_showReceived, hX⟩
  have b202 : ∀ (f : mFn) (g : mGn), rI n e f0 f g → X 202 [] [] f g := by
    intro f g  hI
    refine hX.1 6 _ rfl _ _ _ _ ?_
    exact And.intro mRt_v (hK _ _ hI)
  have r166 : ∀ (t : Nat), ∀ (a1 : Int32) (f : mFn) (g : mGn), rg 0 300 a1 → rI n e f0 f g → rg 0 299 (f 35) → (300 - Int32.toInt a1).toNat < t → X 166 [(0, .inr 0), (1, .inl a1)] [] f g := by
    intro t
    induction t with
    | zero => intro a1 f g ha1 hI hf hm; exact absurd hm (Nat.not_lt_zero _)
    | succ t ih =>
      intro a1 f g ha1 hI hf hm
      refine hX.1 4 _ rfl _ _ _ _ ?_
      refine And.intro (fun c40 => ?_) (fun c40 => ?_)
      · -- 194
        refine hX.1 5 _ rfl _ _ _ _ ?_
        refine k_X9_frame n e f0 _ _ _   hI (fun y41 hy41 => ?_)
        exact hX.2 _ _ [] _ _ _ mW0 (b202  _ _  (rP0 hI (by decide +kernel)))
      · -- on
        refine And.intro (rg_in (show rg 1 299 _ from (rg_add (show rg 0 298 _ from (rg_lt ha1 hf (rg_nle c40) (by decide +kernel))) (rg_c (a := 1) (b := 1) (by decide +kernel)) (by decide +kernel))) (by decide +kernel)) ?_
        refine And.intro (rg_in (show rg 0 298 _ from (rg_lt ha1 hf (rg_nle c40) (by decide +kernel))) (by decide +kernel)) ?_
        exact hX.2 _ _ [(0, .inr 0), (1, .inl _)] _ _ _ (mWc rfl (mWc rfl mW0)) (ih _ _ _ (rg_w (c := 0) (d := 300) (show rg 1 299 _ from (rg_add (show rg 0 298 _ from (rg_lt ha1 hf (rg_nle c40) (by decide +kernel))) (rg_c (a := 1) (b := 1) (by decide +kernel)) (by decide +kernel))) (by decide +kernel)) (gI_a1 hI 5 300 (lo := 0) (hi := 255) (rg_w (c := 0) (d := 255) (gI_g hI 5 6 300 0 255 rfl (rg_in (show rg 1 299 _ from (rg_add (show rg 0 298 _ from (rg_lt ha1 hf (rg_nle c40) (by decide +kernel))) (rg_c (a := 1) (b := 1) (by decide +kernel)) (by decide +kernel))) (by decide +kernel))) (by decide +kernel)) (by decide +kernel)) hf (lp_m (N := 300) (rg_w (c := (-2147483648)) (d := 299) (show rg 0 298 _ from (rg_lt ha1 hf (rg_nle c40) (by decide +kernel))) (by decide +kernel)) hm))
  have b166 : ∀ (a1 : Int32) (f : mFn) (g : mGn), rg 0 300 a1 → rI n e f0 f g → rg 0 299 (f 35) → X 166 [(0, .inr 0), (1, .inl a1)] [] f g := by
    intro a1 f g ha1 hI hf
    exact r166 _ _ _ _ ha1 hI hf (Nat.lt_succ_self _)
  have b234 : ∀ (f : mFn) (g : mGn), rI n e f0 f g → X 234 [] [] f g := by
    intro f g  hI
    refine hX.1 8 _ rfl _ _ _ _ ?_
    exact And.intro mRt_v (hK _ _ hI)
  have b283 : ∀ (f : mFn) (g : mGn), rI n e f0 f g → rg 0 1 (f 32) → X 283 [(0, .inr 0)] [] f g := by
    intro f g hI hf
    refine hX.1 12 _ rfl _ _ _ _ ?_
    refine k_X9_showReceived n e f0 _ _ _  (rP1 11 (rg_w (c := 0) (d := 2) (show rg 1 2 _ from (rg_add hf (rg_c (a := 1) (b := 1) (by decide +kernel)) (by decide +kernel))) (by decide +kernel)) hI (by decide +kernel)) (fun f48 gf48 hI49 => ?_)
    exact And.intro mRt_v (hK _ _ hI49)
  have b130 : ∀ (f : mFn) (g : mGn), rI n e f0 f g → X 130 [(0, .inr 0)] [] f g := by
    intro f g  hI
    refine hX.1 3 _ rfl _ _ _ _ ?_
    refine And.intro (fun c50 => ?_) (fun c50 => ?_)
    · -- 203
      refine hX.1 7 _ rfl _ _ _ _ ?_
      refine And.intro (fun c52 => ?_) (fun c52 => ?_)
      · -- 234
        exact hX.2 _ _ [] _ _ _ mW0 (b234  _ _  (rP0 hI (by decide +kernel)))
      · -- on
        refine And.intro (rg_in (rg_c (a := 193) (b := 193) (by decide +kernel)) (by decide +kernel)) ?_
        refine And.intro (fun c53 => ?_) (fun c53 => ?_)
        · -- 235
          refine hX.1 9 _ rfl _ _ _ _ ?_
          refine And.intro (fun c54 => ?_) (fun c54 => ?_)
          · -- 257
            refine hX.1 10 _ rfl _ _ _ _ ?_
            refine And.intro (fun c55 => ?_) (fun c55 => ?_)
            · -- 275
              refine hX.1 11 _ rfl _ _ _ _ ?_
              exact hX.2 _ _ [(0, .inr 0)] _ _ _ (mWc rfl mW0) (b283  _ _  (rP1 10 (rg_w (c := 0) (d := 255) (gI_s (rP0 hI (by decide +kernel)) 8 28 0 255 rfl) (by decide +kernel)) (rP0 hI (by decide +kernel)) (by decide +kernel)) (rg_neH (gI_s hI 11 32 0 2 rfl) (rg_c (a := 2) (b := 2) (by decide +kernel)) c54 (by decide +kernel)))
            · -- on
              exact hX.2 _ _ [(0, .inr 0)] _ _ _ (mWc rfl mW0) (b283  _ _  (rP1 9 (rg_w (c := 0) (d := 255) (gI_s (rP0 hI (by decide +kernel)) 8 28 0 255 rfl) (by decide +kernel)) (rP0 hI (by decide +kernel)) (by decide +kernel)) (rg_neH (gI_s hI 11 32 0 2 rfl) (rg_c (a := 2) (b := 2) (by decide +kernel)) c54 (by decide +kernel)))
          · -- on
            refine And.intro (rg_in (rg_c (a := 192) (b := 192) (by decide +kernel)) (by decide +kernel)) ?_
            refine And.intro (rg_in (rg_c (a := 192) (b := 192) (by decide +kernel)) (by decide +kernel)) ?_
            exact And.intro mRt_v (hK _ _ (gI_a1 (rP0 hI (by decide +kernel)) 2 1280 (lo := 0) (hi := 255) (rg_w (c := 0) (d := 255) (show rg 0 255 _ from (rg_or (k := 8) (gI_g hI 2 3 1280 0 255 rfl (rg_in (rg_c (a := 192) (b := 192) (by decide +kernel)) (by decide +kernel))) (rg_c (a := 8) (b := 8) (by decide +kernel)) (by decide +kernel))) (by decide +kernel)) (by decide +kernel)))
        · -- on
          exact hX.2 _ _ [] _ _ _ mW0 (b234  _ _  (rP0 hI (by decide +kernel)))
    · -- on
      refine And.intro (fun c59 => ?_) (fun c59 => ?_)
      · -- 202
        exact hX.2 _ _ [] _ _ _ mW0 (b202  _ _  hI)
      · -- on
        refine And.intro (rg_in (rg_c (a := 0) (b := 0) (by decide +kernel)) (by decide +kernel)) ?_
        exact hX.2 _ _ [(0, .inr 0), (1, .inl _)] _ _ _ (mWc rfl (mWc rfl mW0)) (b166 _ _ _ (rg_w (c := 0) (d := 300) (rg_c (a := 0) (b := 0) (by decide +kernel)) (by decide +kernel)) (rP1 12 (rg_w (c := 0) (d := 300) (show rg 0 299 _ from (rg_sub (show rg 1 300 _ from (rg_gt (gI_s hI 12 35 0 300 rfl) (rg_c (a := 0) (b := 0) (by decide +kernel)) (rg_nle c59) (by decide +kernel))) (rg_c (a := 1) (b := 1) (by decide +kernel)) (by decide +kernel))) (by decide +kernel)) (rP1 8 (rg_w (c := 0) (d := 255) (gI_g hI 5 6 300 0 255 rfl (rg_in (rg_c (a := 0) (b := 0) (by decide +kernel)) (by decide +kernel))) (by decide +kernel)) hI (by decide +kernel)) (by decide +kernel)) (rg_us (rg_sub (a := 1) (b := 300) (c := 1) (d := 1) (lo := 0) (hi := 299) (show rg 1 300 _ from (rg_gt (gI_s hI 12 35 0 300 rfl) (rg_c (a := 0) (b := 0) (by decide +kernel)) (rg_nle c59) (by decide +kernel))) (rg_c (by decide +kernel)) (by decide +kernel))))
  have b99 : ∀ (f : mFn) (g : mGn), rI n e f0 (upd f 36 (f 36 + 1)) g → X 99 [(0, .inr 0)] [] f g := by
    intro f g  hI
    refine hX.1 2 _ rfl _ _ _ _ ?_
    refine And.intro (fun c63 => ?_) (fun c63 => ?_)
    · -- 130
      exact hX.2 _ _ [(0, .inr 0)] _ _ _ (mWc rfl mW0) (b130  _ _  hI)
    · -- on
      refine And.intro (rg_in (rg_c (a := 192) (b := 192) (by decide +kernel)) (by decide +kernel)) ?_
      refine And.intro (rg_in (rg_c (a := 192) (b := 192) (by decide +kernel)) (by decide +kernel)) ?_
      exact hX.2 _ _ [(0, .inr 0)] _ _ _ (mWc rfl mW0) (b130  _ _  (gI_a1 hI 2 1280 (lo := 0) (hi := 255) (rg_w (c := 0) (d := 255) (show rg 0 255 _ from (rg_or (k := 8) (gI_g hI 2 3 1280 0 255 rfl (rg_in (rg_c (a := 192) (b := 192) (by decide +kernel)) (by decide +kernel))) (rg_c (a := 64) (b := 64) (by decide +kernel)) (by decide +kernel))) (by decide +kernel)) (by decide +kernel)))
  have b52 : ∀ (f : mFn) (g : mGn), rI n e f0 f g → X 52 [(0, .inr 0)] [] f g := by
    intro f g  hI
    refine hX.1 1 _ rfl _ _ _ _ ?_
    refine And.intro (fun c65 => ?_) (fun c65 => ?_)
    · -- 130
      exact hX.2 _ _ [(0, .inr 0)] _ _ _ (mWc rfl mW0) (b130  _ _  hI)
    · -- on
      refine And.intro (fun c67 => ?_) (fun c67 => ?_)
      · -- 130
        exact hX.2 _ _ [(0, .inr 0)] _ _ _ (mWc rfl mW0) (b130 _ _ (rSd hI (rg_pos c65)))
      · -- on
        refine And.intro (fun c68 => ?_) (fun c68 => ?_)
        · -- 99
          exact hX.2 _ _ [(0, .inr 0)] _ _ _ (mWc rfl mW0) (b99 _ _ (rAr hI (rg_pos c65) c67))
        · -- on
          refine And.intro (rg_in (show rg 0 999 _ from (rg_lt (gI_s (rSd hI (rg_pos c65)) 13 36 0 2147483647 rfl) (rg_c (a := 1000) (b := 1000) (by decide +kernel)) (rg_nle c68) (by decide +kernel))) (by decide +kernel)) ?_
          exact hX.2 _ _ [(0, .inr 0)] _ _ _ (mWc rfl mW0) (b99  _ _  (gI_a1 (rAr hI (rg_pos c65) c67) 6 1000 (lo := 0) (hi := 255) (rg_w (c := 0) (d := 255) (gI_s (rSd hI (rg_pos c65)) 7 26 0 255 rfl) (by decide +kernel)) (by decide +kernel)))
  refine hX.1 0 _ rfl _ _ _ _ ?_
  refine And.intro (fun c70 => ?_) (fun c70 => ?_)
  · -- 52
    exact hX.2 _ _ [(0, .inr 0)] _ _ _ (mWc rfl mW0) (b52  _ _  hI)
  · -- on
    refine And.intro (fun c71 => ?_) (fun c71 => ?_)
    · -- 52
      exact hX.2 _ _ [(0, .inr 0)] _ _ _ (mWc rfl mW0) (b52  _ _  hI)
    · -- on
      refine k_X9_frame n e f0 _ _ _ (rW0 (rP1 7 (rg_w (c := 0) (d := 255) (show rg 0 255 _ from (rg_neL (gI_s hI 6 25 (-1) 255 rfl) (rg_c (a := (-1)) (b := (-1)) (by decide +kernel)) c71 (by decide +kernel))) (by decide +kernel)) hI (by decide +kernel))) (fun y74 hy74 => ?_)
      refine And.intro (rg_in (rg_c (a := 192) (b := 192) (by decide +kernel)) (by decide +kernel)) ?_
      refine And.intro (rg_in (rg_c (a := 192) (b := 192) (by decide +kernel)) (by decide +kernel)) ?_
      exact hX.2 _ _ [(0, .inr 0)] _ _ _ (mWc rfl mW0) (b130  _ _  (gI_a1 (rCy hI c70 c71 (rg_neL (gI_s hI 6 25 (-1) 255 rfl) (rg_c (a := (-1)) (b := (-1)) (by decide +kernel)) c71 (by decide +kernel))) 2 1280 (lo := 0) (hi := 255) (rg_w (c := 0) (d := 255) (show rg 0 255 _ from (rg_or (k := 8) (gI_g hI 2 3 1280 0 255 rfl (rg_in (rg_c (a := 192) (b := 192) (by decide +kernel)) (by decide +kernel))) (rg_c (a := 32) (b := 32) (by decide +kernel)) (by decide +kernel))) (by decide +kernel)) (by decide +kernel)))
def SPX9_windows (S : mSp) : Prop := ∀ (n e : Int) (f0 f : mFn) (g : mGn) (K : mKr), rI n e f0 f g → (∀ (f' : mFn) (g' : mGn), rI n e f0 f' g' → K none f' g') → S [.inr 0] f g K
set_option maxRecDepth 100000 in
set_option maxHeartbeats 4000000 in
theorem sfX9_windows : SPX9_windows spX9_windows := by
  intro n e f0 f g K   hI hK
  refine ⟨rfl, fun X hX => ?_⟩
  have b185 : ∀ (f : mFn) (g : mGn), rI n e f0 f g → X 185 [] [] f g := by
    intro f g  hI
    refine hX.1 5 _ rfl _ _ _ _ ?_
    exact And.intro mRt_v (hK _ _ hI)
  have b148 : ∀ (f : mFn) (g : mGn), rI n e f0 f g → X 148 [(0, .inr 0)] [] f g := by
    intro f g  hI
    refine hX.1 4 _ rfl _ _ _ _ ?_
    refine And.intro (fun c21 => ?_) (fun c21 => ?_)
    · -- 185
      exact hX.2 _ _ [] _ _ _ mW0 (b185  _ _  hI)
    · -- on
      refine And.intro (fun c23 => ?_) (fun c23 => ?_)
      · -- 185
        exact hX.2 _ _ [] _ _ _ mW0 (b185  _ _  (rP0 hI (by decide +kernel)))
      · -- on
        refine And.intro (rg_in (rg_c (a := 87) (b := 87) (by decide +kernel)) (by decide +kernel)) ?_
        refine And.intro (rg_in (rg_c (a := 87) (b := 87) (by decide +kernel)) (by decide +kernel)) ?_
        exact hX.2 _ _ [] _ _ _ mW0 (b185  _ _  (gI_a1 (rP0 hI (by decide +kernel)) 2 1280 (lo := 0) (hi := 255) (rg_w (c := 0) (d := 255) (show rg 0 224 _ from (rg_andR (rg_c (a := 224) (b := 224) (by decide +kernel)) (by decide +kernel))) (by decide +kernel)) (by decide +kernel)))
  have b111 : ∀ (f : mFn) (g : mGn), rI n e f0 f g → X 111 [(0, .inr 0)] [] f g := by
    intro f g  hI
    refine hX.1 3 _ rfl _ _ _ _ ?_
    refine And.intro (fun c25 => ?_) (fun c25 => ?_)
    · -- 148
      exact hX.2 _ _ [(0, .inr 0)] _ _ _ (mWc rfl mW0) (b148  _ _  hI)
    · -- on
      refine And.intro (fun c27 => ?_) (fun c27 => ?_)
      · -- 148
        exact hX.2 _ _ [(0, .inr 0)] _ _ _ (mWc rfl mW0) (b148  _ _  (rP0 hI (by decide +kernel)))
      · -- on
        refine And.intro (rg_in (rg_c (a := 63) (b := 63) (by decide +kernel)) (by decide +kernel)) ?_
        refine And.intro (rg_in (rg_c (a := 63) (b := 63) (by decide +kernel)) (by decide +kernel)) ?_
        exact hX.2 _ _ [(0, .inr 0)] _ _ _ (mWc rfl mW0) (b148  _ _  (gI_a1 (rP0 hI (by decide +kernel)) 2 1280 (lo := 0) (hi := 255) (rg_w (c := 0) (d := 255) (show rg 0 251 _ from (rg_andR (rg_c (a := 251) (b := 251) (by decide +kernel)) (by decide +kernel))) (by decide +kernel)) (by decide +kernel)))
  have b74 : ∀ (f : mFn) (g : mGn), rI n e f0 f g → X 74 [(0, .inr 0)] [] f g := by
    intro f g  hI
    refine hX.1 2 _ rfl _ _ _ _ ?_
    refine And.intro (fun c29 => ?_) (fun c29 => ?_)
    · -- 111
      exact hX.2 _ _ [(0, .inr 0)] _ _ _ (mWc rfl mW0) (b111  _ _  hI)
    · -- on
      refine And.intro (fun c31 => ?_) (fun c31 => ?_)
      · -- 111
        exact hX.2 _ _ [(0, .inr 0)] _ _ _ (mWc rfl mW0) (b111  _ _  (rP0 hI (by decide +kernel)))
      · -- on
        refine And.intro (rg_in (rg_c (a := 85) (b := 85) (by decide +kernel)) (by decide +kernel)) ?_
        refine And.intro (rg_in (rg_c (a := 85) (b := 85) (by decide +kernel)) (by decide +kernel)) ?_
        exact hX.2 _ _ [(0, .inr 0)] _ _ _ (mWc rfl mW0) (b111  _ _  (gI_a1 (rP0 hI (by decide +kernel)) 2 1280 (lo := 0) (hi := 255) (rg_w (c := 0) (d := 255) (show rg 0 254 _ from (rg_andR (rg_c (a := 254) (b := 254) (by decide +kernel)) (by decide +kernel))) (by decide +kernel)) (by decide +kernel)))
  have b37 : ∀ (f : mFn) (g : mGn), rI n e f0 f g → X 37 [(0, .inr 0)] [] f g := by
    intro f g  hI
    refine hX.1 1 _ rfl _ _ _ _ ?_
    refine And.intro (fun c33 => ?_) (fun c33 => ?_)
    · -- 74
      exact hX.2 _ _ [(0, .inr 0)] _ _ _ (mWc rfl mW0) (b74  _ _  hI)
    · -- on
      refine And.intro (fun c35 => ?_) (fun c35 => ?_)
      · -- 74
        exact hX.2 _ _ [(0, .inr 0)] _ _ _ (mWc rfl mW0) (b74  _ _  (rP0 hI (by decide +kernel)))
      · -- on
        refine And.intro (rg_in (rg_c (a := 96) (b := 96) (by decide +kernel)) (by decide +kernel)) ?_
        refine And.intro (rg_in (rg_c (a := 96) (b := 96) (by decide +kernel)) (by decide +kernel)) ?_
        exact hX.2 _ _ [(0, .inr 0)] _ _ _ (mWc rfl mW0) (b74  _ _  (gI_a1 (rP0 hI (by decide +kernel)) 2 1280 (lo := 0) (hi := 255) (rg_w (c := 0) (d := 255) (show rg 0 239 _ from (rg_andR (rg_c (a := 239) (b := 239) (by decide +kernel)) (by decide +kernel))) (by decide +kernel)) (by decide +kernel)))
  refine hX.1 0 _ rfl _ _ _ _ ?_
  refine And.intro (fun c37 => ?_) (fun c37 => ?_)
  · -- 37
    exact hX.2 _ _ [(0, .inr 0)] _ _ _ (mWc rfl mW0) (b37  _ _  hI)
  · -- on
    refine And.intro (fun c39 => ?_) (fun c39 => ?_)
    · -- 37
      exact hX.2 _ _ [(0, .inr 0)] _ _ _ (mWc rfl mW0) (b37  _ _  (rP0 hI (by decide +kernel)))
    · -- on
      refine And.intro (rg_in (rg_c (a := 87) (b := 87) (by decide +kernel)) (by decide +kernel)) ?_
      refine And.intro (rg_in (rg_c (a := 87) (b := 87) (by decide +kernel)) (by decide +kernel)) ?_
      exact hX.2 _ _ [(0, .inr 0)] _ _ _ (mWc rfl mW0) (b37  _ _  (gI_a1 (rP0 hI (by decide +kernel)) 2 1280 (lo := 0) (hi := 255) (rg_w (c := 0) (d := 255) (show rg 0 224 _ from (rg_andR (rg_c (a := 224) (b := 224) (by decide +kernel)) (by decide +kernel))) (by decide +kernel)) (by decide +kernel)))
def SPX9_timer (S : mSp) : Prop := ∀ (n e : Int) (f0 f : mFn) (g : mGn) (K : mKr), rI n e f0 f g → (∀ (f' : mFn) (g' : mGn), rI n e f0 f' g' → K none f' g') → S [.inr 0] f g K
set_option maxRecDepth 100000 in
set_option maxHeartbeats 4000000 in
theorem sfX9_timer : SPX9_timer spX9_timer := by
  intro n e f0 f g K   hI hK
  refine ⟨rfl, fun X hX => ?_⟩
  have b208 : ∀ (f : mFn) (g : mGn), rI n e f0 f g → X 208 [] [] f g := by
    intro f g  hI
    refine hX.1 10 _ rfl _ _ _ _ ?_
    exact And.intro mRt_v (hK _ _ hI)
  have b180 : ∀ (f : mFn) (g : mGn), rI n e f0 f g → X 180 [(0, .inr 0)] [] f g := by
    intro f g  hI
    refine hX.1 9 _ rfl _ _ _ _ ?_
    refine And.intro (rg_in (rg_c (a := 70) (b := 70) (by decide +kernel)) (by decide +kernel)) ?_
    refine And.intro (rg_in (rg_c (a := 71) (b := 71) (by decide +kernel)) (by decide +kernel)) ?_
    refine And.intro (fun c20 => ?_) (fun c20 => ?_)
    · -- 208
      exact hX.2 _ _ [] _ _ _ mW0 (b208  _ _  hI)
    · -- on
      refine And.intro (rg_in (rg_c (a := 53) (b := 53) (by decide +kernel)) (by decide +kernel)) ?_
      refine And.intro (rg_in (rg_c (a := 53) (b := 53) (by decide +kernel)) (by decide +kernel)) ?_
      exact hX.2 _ _ [] _ _ _ mW0 (b208  _ _  (gI_a1 hI 2 1280 (lo := 0) (hi := 255) (rg_w (c := 0) (d := 255) (show rg 0 255 _ from (rg_or (k := 8) (gI_g hI 2 3 1280 0 255 rfl (rg_in (rg_c (a := 53) (b := 53) (by decide +kernel)) (by decide +kernel))) (rg_c (a := 2) (b := 2) (by decide +kernel)) (by decide +kernel))) (by decide +kernel)) (by decide +kernel)))
  have b139 : ∀ (f : mFn) (g : mGn), rI n e f0 f g → X 139 [(0, .inr 0)] [] f g := by
    intro f g  hI
    refine hX.1 8 _ rfl _ _ _ _ ?_
    refine And.intro (rg_in (rg_c (a := 70) (b := 70) (by decide +kernel)) (by decide +kernel)) ?_
    refine And.intro (rg_in (rg_c (a := 70) (b := 70) (by decide +kernel)) (by decide +kernel)) ?_
    refine And.intro (rg_in (rg_c (a := 70) (b := 70) (by decide +kernel)) (by decide +kernel)) ?_
    refine And.intro (fun c23 => ?_) (fun c23 => ?_)
    · -- 180
      exact hX.2 _ _ [(0, .inr 0)] _ _ _ (mWc rfl mW0) (b180  _ _  (gI_a1 hI 2 1280 (lo := 0) (hi := 255) (rg_w (c := 0) (d := 255) (show rg 0 255 _ from (rg_andR (rg_c (a := 255) (b := 255) (by decide +kernel)) (by decide +kernel))) (by decide +kernel)) (by decide +kernel)))
    · -- on
      refine And.intro (rg_in (rg_c (a := 53) (b := 53) (by decide +kernel)) (by decide +kernel)) ?_
      refine And.intro (rg_in (rg_c (a := 53) (b := 53) (by decide +kernel)) (by decide +kernel)) ?_
      exact hX.2 _ _ [(0, .inr 0)] _ _ _ (mWc rfl mW0) (b180  _ _  (gI_a1 (gI_a1 hI 2 1280 (lo := 0) (hi := 255) (rg_w (c := 0) (d := 255) (show rg 0 255 _ from (rg_andR (rg_c (a := 255) (b := 255) (by decide +kernel)) (by decide +kernel))) (by decide +kernel)) (by decide +kernel)) 2 1280 (lo := 0) (hi := 255) (rg_w (c := 0) (d := 255) (show rg 0 255 _ from (rg_or (k := 8) (gI_g (gI_a1 hI 2 1280 (lo := 0) (hi := 255) (rg_w (c := 0) (d := 255) (show rg 0 255 _ from (rg_andR (rg_c (a := 255) (b := 255) (by decide +kernel)) (by decide +kernel))) (by decide +kernel)) (by decide +kernel)) 2 3 1280 0 255 rfl (rg_in (rg_c (a := 53) (b := 53) (by decide +kernel)) (by decide +kernel))) (rg_c (a := 1) (b := 1) (by decide +kernel)) (by decide +kernel))) (by decide +kernel)) (by decide +kernel)))
  have b93 : ∀ (s0 : Int32) (f : mFn) (g : mGn), rg 0 1 s0 → rI n e f0 f g → X 93 [(0, .inr 0)] [.inl s0] f g := by
    intro s0 f g hs0 hI
    refine hX.1 6 _ rfl _ _ _ _ ?_
    refine And.intro (fun c25 => ?_) (fun c25 => ?_)
    · -- 99
      refine hX.1 7 _ rfl _ _ _ _ ?_
      refine And.intro (rg_in (rg_c (a := 68) (b := 68) (by decide +kernel)) (by decide +kernel)) ?_
      refine And.intro (fun c26 => ?_) (fun c26 => ?_)
      · -- 139
        exact hX.2 _ _ [(0, .inr 0)] _ _ _ (mWc rfl mW0) (b139  _ _  hI)
      · -- on
        refine And.intro (rg_in (rg_c (a := 70) (b := 70) (by decide +kernel)) (by decide +kernel)) ?_
        refine And.intro (rg_in (rg_c (a := 71) (b := 71) (by decide +kernel)) (by decide +kernel)) ?_
        refine And.intro (fun c27 => ?_) (fun c27 => ?_)
        · -- 139
          exact hX.2 _ _ [(0, .inr 0)] _ _ _ (mWc rfl mW0) (b139  _ _  hI)
        · -- on
          refine And.intro (rg_in (rg_c (a := 70) (b := 70) (by decide +kernel)) (by decide +kernel)) ?_
          exact hX.2 _ _ [(0, .inr 0)] _ _ _ (mWc rfl mW0) (b180  _ _  (gI_a1 hI 2 1280 (lo := 0) (hi := 255) (rg_w (c := 0) (d := 255) (rg_c (a := 0) (b := 0) (by decide +kernel)) (by decide +kernel)) (by decide +kernel)))
    · -- on
      exact And.intro mRt_v (hK _ _ hI)
  have b88 : ∀ (f : mFn) (g : mGn), rI n e f0 f g → X 88 [(0, .inr 0)] [] f g := by
    intro f g  hI
    refine hX.1 4 _ rfl _ _ _ _ ?_
    exact hX.2 _ _ [(0, .inr 0)] _ _ _ (mWc rfl mW0) (b93 _ _ _ (rg_w (c := 0) (d := 1) (rg_c (a := 1) (b := 1) (by decide +kernel)) (by decide +kernel)) hI)
  have b92 : ∀ (f : mFn) (g : mGn), rI n e f0 f g → X 92 [(0, .inr 0)] [] f g := by
    intro f g  hI
    refine hX.1 5 _ rfl _ _ _ _ ?_
    exact hX.2 _ _ [(0, .inr 0)] _ _ _ (mWc rfl mW0) (b93 _ _ _ (rg_w (c := 0) (d := 1) (rg_c (a := 0) (b := 0) (by decide +kernel)) (by decide +kernel)) hI)
  have b76 : ∀ (a1 : Int32) (f : mFn) (g : mGn), rg 0 7 a1 → rI n e f0 f g → X 76 [(0, .inr 0), (1, .inl a1)] [] f g := by
    intro a1 f g ha1 hI
    refine hX.1 3 _ rfl _ _ _ _ ?_
    refine And.intro (fun c29 => ?_) (fun c29 => ?_)
    · -- 92
      exact hX.2 _ _ [(0, .inr 0)] _ _ _ (mWc rfl mW0) (b92  _ _  hI)
    · -- on
      refine And.intro (fun c30 => ?_) (fun c30 => ?_)
      · -- 92
        exact hX.2 _ _ [(0, .inr 0)] _ _ _ (mWc rfl mW0) (b92  _ _  hI)
      · -- on
        exact hX.2 _ _ [(0, .inr 0)] _ _ _ (mWc rfl mW0) (b88  _ _  hI)
  have b60 : ∀ (a1 : Int32) (f : mFn) (g : mGn), rg 0 7 a1 → rI n e f0 f g → X 60 [(0, .inr 0), (1, .inl a1)] [] f g := by
    intro a1 f g ha1 hI
    refine hX.1 2 _ rfl _ _ _ _ ?_
    refine And.intro (fun c31 => ?_) (fun c31 => ?_)
    · -- 76
      exact hX.2 _ _ [(0, .inr 0), (1, .inl _)] _ _ _ (mWc rfl (mWc rfl mW0)) (b76 _ _ _ (rg_w (c := 0) (d := 7) ha1 (by decide +kernel)) hI)
    · -- on
      refine And.intro (by decide +kernel) ?_
      refine And.intro (fun c32 => ?_) (fun c32 => ?_)
      · -- 88
        exact hX.2 _ _ [(0, .inr 0)] _ _ _ (mWc rfl mW0) (b88  _ _  hI)
      · -- on
        exact hX.2 _ _ [(0, .inr 0), (1, .inl _)] _ _ _ (mWc rfl (mWc rfl mW0)) (b76 _ _ _ (rg_w (c := 0) (d := 7) (show rg 4 4 _ from (rg_eq (rg_c (a := 4) (b := 4) (by decide +kernel)) c31)) (by decide +kernel)) hI)
  have b45 : ∀ (a1 : Int32) (f : mFn) (g : mGn), rg 0 7 a1 → rI n e f0 f g → X 45 [(0, .inr 0), (1, .inl a1)] [] f g := by
    intro a1 f g ha1 hI
    refine hX.1 1 _ rfl _ _ _ _ ?_
    refine And.intro (fun c33 => ?_) (fun c33 => ?_)
    · -- 60
      exact hX.2 _ _ [(0, .inr 0), (1, .inl _)] _ _ _ (mWc rfl (mWc rfl mW0)) (b60 _ _ _ (rg_w (c := 0) (d := 7) ha1 (by decide +kernel)) hI)
    · -- on
      refine And.intro (by decide +kernel) ?_
      refine And.intro (fun c34 => ?_) (fun c34 => ?_)
      · -- 88
        exact hX.2 _ _ [(0, .inr 0)] _ _ _ (mWc rfl mW0) (b88  _ _  hI)
      · -- on
        exact hX.2 _ _ [(0, .inr 0), (1, .inl _)] _ _ _ (mWc rfl (mWc rfl mW0)) (b60 _ _ _ (rg_w (c := 0) (d := 7) (show rg 3 3 _ from (rg_eq (rg_c (a := 3) (b := 3) (by decide +kernel)) c33)) (by decide +kernel)) hI)
  refine hX.1 0 _ rfl _ _ _ _ ?_
  refine And.intro (rg_in (rg_c (a := 69) (b := 69) (by decide +kernel)) (by decide +kernel)) ?_
  refine And.intro (fun c36 => ?_) (fun c36 => ?_)
  · -- 88
    exact hX.2 _ _ [(0, .inr 0)] _ _ _ (mWc rfl mW0) (b88  _ _  (rP0 hI (by decide +kernel)))
  · -- on
    refine And.intro (fun c37 => ?_) (fun c37 => ?_)
    · -- 45
      exact hX.2 _ _ [(0, .inr 0), (1, .inl _)] _ _ _ (mWc rfl (mWc rfl mW0)) (b45 _ _ _ (rg_w (c := 0) (d := 7) (show rg 0 7 _ from (rg_andR (rg_c (a := 7) (b := 7) (by decide +kernel)) (by decide +kernel))) (by decide +kernel)) (rP0 hI (by decide +kernel)))
    · -- on
      refine And.intro (by decide +kernel) ?_
      refine And.intro (fun c38 => ?_) (fun c38 => ?_)
      · -- 88
        exact hX.2 _ _ [(0, .inr 0)] _ _ _ (mWc rfl mW0) (b88  _ _  (rP0 hI (by decide +kernel)))
      · -- on
        exact hX.2 _ _ [(0, .inr 0), (1, .inl _)] _ _ _ (mWc rfl (mWc rfl mW0)) (b45 _ _ _ (rg_w (c := 0) (d := 7) (show rg 2 2 _ from (rg_eq (rg_c (a := 2) (b := 2) (by decide +kernel)) c37)) (by decide +kernel)) (rP0 hI (by decide +kernel)))
theorem skX9_windows (n e : Int) (f0 f : mFn) (g : mGn) (K : mKr) (hI : rI n e f0 f g) (hK : ∀ (f' : mFn) (g' : mGn), f' 13 = f 13 → rI n e f0 f' g' → K none f' g') : spX9_windows [.inr 0] f g K :=
  kp13_X9_windows (f 13) _ f g (fun r f' g' => r = none ∧ rI n e f0 f' g') K rfl (fun r f' g' hp hk => by obtain ⟨rfl, h⟩ := hk; exact hK f' g' hp h) (sfX9_windows n e f0 f g _ hI (fun f' g' h => ⟨rfl, h⟩))
def SQX9_windows (S : mSp) : Prop := ∀ (n e : Int) (f0 f : mFn) (g : mGn) (K : mKr), rI n e f0 f g → (∀ (f' : mFn) (g' : mGn), f' 13 = f 13 → rI n e f0 f' g' → K none f' g') → S [.inr 0] f g K
theorem skX9_timer (n e : Int) (f0 f : mFn) (g : mGn) (K : mKr) (hI : rI n e f0 f g) (hK : ∀ (f' : mFn) (g' : mGn), f' 13 = f 13 → rI n e f0 f' g' → K none f' g') : spX9_timer [.inr 0] f g K :=
  kp13_X9_timer (f 13) _ f g (fun r f' g' => r = none ∧ rI n e f0 f' g') K rfl (fun r f' g' hp hk => by obtain ⟨rfl, h⟩ := hk; exact hK f' g' hp h) (sfX9_timer n e f0 f g _ hI (fun f' g' h => ⟨rfl, h⟩))
def SQX9_timer (S : mSp) : Prop := ∀ (n e : Int) (f0 f : mFn) (g : mGn) (K : mKr), rI n e f0 f g → (∀ (f' : mFn) (g' : mGn), f' 13 = f 13 → rI n e f0 f' g' → K none f' g') → S [.inr 0] f g K
theorem skX9_line (n e : Int) (f0 f : mFn) (g : mGn) (K : mKr) (hI : rI n e f0 f g) (hK : ∀ (f' : mFn) (g' : mGn), f' 13 = f 13 → rI n e f0 f' g' → K none f' g') : spX9_line [.inr 0] f g K :=
  kp13_X9_line (f 13) _ f g (fun r f' g' => r = none ∧ rI n e f0 f' g') K rfl (fun r f' g' hp hk => by obtain ⟨rfl, h⟩ := hk; exact hK f' g' hp h) (sfX9_line n e f0 f g _ hI (fun f' g' h => ⟨rfl, h⟩))
def SQX9_line (S : mSp) : Prop := ∀ (n e : Int) (f0 f : mFn) (g : mGn) (K : mKr), rI n e f0 f g → (∀ (f' : mFn) (g' : mGn), f' 13 = f 13 → rI n e f0 f' g' → K none f' g') → S [.inr 0] f g K
theorem skX9_dog (n e : Int) (f0 f : mFn) (g : mGn) (K : mKr) (hI : rI n e f0 f g) (hK : ∀ (y : Int32) (f' : mFn) (g' : mGn), rg 0 1 y → f' 13 = f 13 → rI n e f0 f' g' → K (some (.inl y)) f' g') : spX9_dog [.inr 0] f g K :=
  kp13_X9_dog (f 13) _ f g (fun r f' g' => ∃ y, r = some (.inl y) ∧ rg 0 1 y ∧ rI n e f0 f' g') K rfl (fun r f' g' hp hk => by obtain ⟨y, rfl, h1, h2⟩ := hk; exact hK y f' g' h1 hp h2) (sfX9_dog n e f0 f g _ hI (fun y f' g' h1 h2 => ⟨y, rfl, h1, h2⟩))
def SQX9_dog (S : mSp) : Prop := ∀ (n e : Int) (f0 f : mFn) (g : mGn) (K : mKr), rI n e f0 f g → (∀ (y : Int32) (f' : mFn) (g' : mGn), rg 0 1 y → f' 13 = f 13 → rI n e f0 f' g' → K (some (.inl y)) f' g') → S [.inr 0] f g K
def SPX9_passes (S : mSp) : Prop := ∀ (n e : Int) (f0 f : mFn) (g : mGn) (K : mKr), rI n e f0 f g → (∀ (y : Int32) (f' : mFn) (g' : mGn), rg 0 1 y → f' 13 = f 13 + 1 → rI n e f0 f' g' → K (some (.inl y)) f' g') → S [.inr 0] f g K
set_option maxRecDepth 100000 in
set_option maxHeartbeats 4000000 in
theorem sfX9_passes : SPX9_passes spX9_passes := by
  intro n e f0 f g K   hI hK
  refine ⟨rfl, fun X hX => ?_⟩
  obtain ⟨S_X9_windows, k_X9_windows, S_X9_timer, k_X9_timer, S_X9_line, k_X9_line, S_X9_dog, k_X9_dog, hX⟩ : ∃ S_X9_windows, SQX9_windows S_X9_windows ∧ ∃ S_X9_timer, SQX9_timer S_X9_timer ∧ ∃ S_X9_line, SQX9_line S_X9_line ∧ ∃ S_X9_dog, SQX9_dog S_X9_dog ∧ mR shM fdX9_passes [(182, 0, 0, 12, S_X9_windows), (185, 0, 0, 12, S_X9_timer), (188, 0, 0, 12, S_X9_line), (191, 0, 0, 12, S_X9_dog)] bsX9_passes (fun r f g => mRt (some .boolean) r ∧ K r f g) X := ⟨spX9_windows, skX9_windows, spX9_timer, skX9_timer, spX9_line, skX9_line, spX9_dog, skX9_dog, hX⟩
  have b59 : ∀ (f1 : mFn) (g : mGn), f1 13 = f 13 + 1 → rI n e f0 f1 g → X 59 [(0, .inr 0)] [] f1 g := by
    intro f1 g he hI
    refine hX.1 1 _ rfl _ _ _ _ ?_
    refine k_X9_dog n e f0 _ _ _  hI (fun y18 f19 gf19 hy18 he2 hI20 => ?_)
    exact And.intro (mRt_z (rg_01 hy18 (by decide +kernel))) (hK _ _ _ (rg_w (c := 0) (d := 1) hy18 (by decide +kernel)) (he2.trans he) hI20)
  refine hX.1 0 _ rfl _ _ _ _ ?_
  refine k_X9_windows n e f0 _ _ _  (rP0 hI (by decide +kernel)) (fun f23 gf23 e1 hI24 => ?_)
  refine k_X9_timer n e f0 _ _ _  hI24 (fun f26 gf26 e2 hI27 => ?_)
  refine k_X9_line n e f0 _ _ _  hI27 (fun f29 gf29 e3 hI30 => ?_)
  refine And.intro (fun c31 => ?_) (fun c31 => ?_)
  · -- 59
    exact hX.2 _ _ [(0, .inr 0)] _ _ _ (mWc rfl mW0) (b59 _ _ (e3.trans (e2.trans e1)) hI30)
  · -- on
    refine And.intro (fun c33 => ?_) (fun c33 => ?_)
    · -- 59
      exact hX.2 _ _ [(0, .inr 0)] _ _ _ (mWc rfl mW0) (b59 _ _ (e3.trans (e2.trans e1)) (rP0 hI30 (by decide +kernel)))
    · -- on
      refine And.intro (rg_in (rg_c (a := 63) (b := 63) (by decide +kernel)) (by decide +kernel)) ?_
      refine And.intro (rg_in (rg_c (a := 63) (b := 63) (by decide +kernel)) (by decide +kernel)) ?_
      exact hX.2 _ _ [(0, .inr 0)] _ _ _ (mWc rfl mW0) (b59 _ _ (e3.trans (e2.trans e1)) (gI_a1 (rP0 hI30 (by decide +kernel)) 2 1280 (lo := 0) (hi := 255) (rg_w (c := 0) (d := 255) (show rg 0 253 _ from (rg_andR (rg_c (a := 253) (b := 253) (by decide +kernel)) (by decide +kernel))) (by decide +kernel)) (by decide +kernel)))
theorem i_asc (a b : Int32) : a + b - a = b := by
  rw [Int32.add_comm]
  exact Int32.add_sub_cancel b a
def SPX9_stepped (S : mSp) : Prop := ∀ (n e : Int) (f0 f : mFn) (g : mGn) (K : mKr), n + 2 ≤ 300000000 → rI n 8000 f0 f g → (∀ (y : Int32) (f' : mFn) (g' : mGn), rg 1 1200008004 y → rI (n + 2) 8000 f0 f' g' → K (some (.inl y)) f' g') → S [.inr 0] f g K
set_option maxRecDepth 100000 in
set_option maxHeartbeats 4000000 in
theorem sfX9_stepped : SPX9_stepped spX9_stepped := by
  intro n e f0 f g K   hB hI hK
  refine ⟨rfl, fun X hX => ?_⟩
  obtain ⟨S_X9_awaited, k_X9_awaited, S_X9_enter, k_X9_enter, S_X9_instruction, k_X9_instruction, S_X9_passes, k_X9_passes, hX⟩ : ∃ S_X9_awaited, SPX9_awaited S_X9_awaited ∧ ∃ S_X9_enter, SPX9_enter S_X9_enter ∧ ∃ S_X9_instruction, SPX9_instruction S_X9_instruction ∧ ∃ S_X9_passes, SPX9_passes S_X9_passes ∧ mR shM fdX9_stepped [(216, 0, 0, 12, S_X9_awaited), (219, 0, 1, 12, S_X9_enter), (222, 0, 0, 12, S_X9_instruction), (225, 0, 0, 12, S_X9_passes)] bsX9_stepped (fun r f g => mRt (some .int) r ∧ K r f g) X := ⟨spX9_awaited, sfX9_awaited, spX9_enter, sfX9_enter, spX9_instruction, sfX9_instruction, spX9_passes, sfX9_passes, hX⟩
  have b89 : ∀ (a4 : Int32) (f : mFn) (g : mGn), rg 1 1200008004 (f 13 - a4) → rI (n + 2) 8000 f0 f g → X 89 [(0, .inr 0), (4, .inl a4)] [] f g := by
    intro a4 f g hy hI
    refine hX.1 5 _ rfl _ _ _ _ ?_
    exact And.intro mRt_i (hK _ _ _ hy hI)
  have r70 : ∀ (t : Nat), ∀ (a3 : Int32) (a4 : Int32) (a5 : Int32) (f : mFn) (g : mGn), rg 1 1200008004 a3 → rg 0 1200008004 a5 → f 13 = a4 + a5 → rI (n + 2) 8000 f0 f g → (2147483647 - Int32.toInt a5).toNat < t → X 70 [(0, .inr 0), (3, .inl a3), (4, .inl a4), (5, .inl a5)] [] f g := by
    intro t
    induction t with
    | zero => intro a3 a4 a5 f g ha3 ha5 he hI hm; exact absurd hm (Nat.not_lt_zero _)
    | succ t ih =>
      intro a3 a4 a5 f g ha3 ha5 he hI hm
      refine hX.1 4 _ rfl _ _ _ _ ?_
      refine And.intro (fun c21 => ?_) (fun c21 => ?_)
      · -- 89
        exact hX.2 _ _ [(0, .inr 0), (4, .inl _)] _ _ _ (mWc rfl (mWc rfl mW0)) (b89 _ _ _ (by rw [he, i_asc]; exact rg_ge ha5 ha3 c21 (by decide +kernel)) hI)
      · -- on
        refine k_X9_passes (n + 2) 8000 f0 _ _ _  hI (fun y22 f23 gf23 hy22 he2 hI24 => ?_)
        have h5 : rg 0 1200008003 a5 := rg_lt ha5 ha3 (rg_nle c21) (by decide +kernel)
        have h6 : rg 1 1200008004 (a5 + 1) := rg_add h5 (rg_c (a := 1) (b := 1) (by decide +kernel)) (by decide +kernel)
        have he3 : f23 13 = a4 + (a5 + 1) := by rw [he2, he, Int32.add_assoc]
        refine And.intro (fun c25 => ?_) (fun c25 => ?_)
        · -- 89
          exact hX.2 _ _ [(0, .inr 0), (4, .inl _)] _ _ _ (mWc rfl (mWc rfl mW0)) (b89 _ _ _ (by rw [he3, i_asc]; exact h6) hI24)
        · -- on
          exact hX.2 _ _ [(0, .inr 0), (3, .inl _), (4, .inl _), (5, .inl _)] _ _ _ (mWc rfl (mWc rfl (mWc rfl (mWc rfl mW0)))) (ih _ _ _ _ _ (rg_w (c := 1) (d := 1200008004) ha3 (by decide +kernel)) (rg_w (c := 0) (d := 1200008004) h6 (by decide +kernel)) he3 hI24 (lp_m (N := 2147483647) (rg_w h5 (by decide +kernel)) hm))
  have b70 : ∀ (a3 : Int32) (a4 : Int32) (a5 : Int32) (f : mFn) (g : mGn), rg 1 1200008004 a3 → rg 0 1200008004 a5 → f 13 = a4 + a5 → rI (n + 2) 8000 f0 f g → X 70 [(0, .inr 0), (3, .inl a3), (4, .inl a4), (5, .inl a5)] [] f g := by
    intro a3 a4 a5 f g ha3 ha5 he hI
    exact r70 _ _ _ _ _ _ ha3 ha5 he hI (Nat.lt_succ_self _)
  have b61 : ∀ (a3 : Int32) (f : mFn) (g : mGn), rg 1 1200008004 a3 → rI (n + 2) 8000 f0 f g → X 61 [(0, .inr 0), (3, .inl a3)] [] f g := by
    intro a3 f g ha3 hI
    refine hX.1 3 _ rfl _ _ _ _ ?_
    exact hX.2 _ _ [(0, .inr 0), (3, .inl _), (4, .inl _), (5, .inl _)] _ _ _ (mWc rfl (mWc rfl (mWc rfl (mWc rfl mW0)))) (b70 _ _ _ _ _ (rg_w (c := 1) (d := 1200008004) ha3 (by decide +kernel)) (rg_c (a := 0) (b := 1200008004) (by decide +kernel)) (Int32.add_zero _).symm hI)
  have b56 : ∀ (f : mFn) (g : mGn), rI n 8000 f0 f g → X 56 [(0, .inr 0)] [] f g := by
    intro f g  hI
    refine hX.1 2 _ rfl _ _ _ _ ?_
    refine k_X9_instruction n 8000 f0 _ _ _   (by omega) hI (fun y26 f27 gf27 hy26 hI28 => ?_)
    exact hX.2 _ _ [(0, .inr 0), (3, .inl _)] _ _ _ (mWc rfl (mWc rfl mW0)) (b61 _ _ _ (rg_w (c := 1) (d := 1200008004) hy26 (by decide +kernel)) hI28)
  have b45 : ∀ (a1 : Int32) (a3 : Int32) (f : mFn) (g : mGn), rg 0 8 a1 → rg 1 1 a3 → rI n 8000 f0 f g → X 45 [(0, .inr 0), (1, .inl a1), (3, .inl a3)] [] f g := by
    intro a1 a3 f g ha1 ha3 hI
    refine hX.1 1 _ rfl _ _ _ _ ?_
    refine And.intro (fun c29 => ?_) (fun c29 => ?_)
    · -- 56
      exact hX.2 _ _ [(0, .inr 0)] _ _ _ (mWc rfl mW0) (b56  _ _  hI)
    · -- on
      refine And.intro (fun c30 => ?_) (fun c30 => ?_)
      · -- 61
        exact hX.2 _ _ [(0, .inr 0), (3, .inl _)] _ _ _ (mWc rfl (mWc rfl mW0)) (b61 _ _ _ (rg_w (c := 1) (d := 1200008004) ha3 (by decide +kernel)) (rM hI (by omega) (by omega)))
      · -- on
        exact hX.2 _ _ [(0, .inr 0)] _ _ _ (mWc rfl mW0) (b56  _ _  hI)
  refine hX.1 0 _ rfl _ _ _ _ ?_
  refine k_X9_awaited n 8000 f0 _ _ _   (rP0 hI (by decide +kernel)) (fun y32 hy32 => ?_)
  refine And.intro (rg_01 (rg_c (a := 0) (b := 0) (by decide +kernel)) (by decide +kernel)) ?_
  refine And.intro (fun c36 => ?_) (fun c36 => ?_)
  · -- 45
    exact hX.2 _ _ [(0, .inr 0), (1, .inl _), (3, .inl _)] _ _ _ (mWc rfl (mWc rfl (mWc rfl mW0))) (b45 _ _ _ _ (rg_w (c := 0) (d := 8) (show rg 0 0 _ from (rg_eq (rg_c (a := 0) (b := 0) (by decide +kernel)) c36)) (by decide +kernel)) (rg_w (c := 1) (d := 1) (rg_c (a := 1) (b := 1) (by decide +kernel)) (by decide +kernel)) (rP0 (rP0 hI (by decide +kernel)) (by decide +kernel)))
  · -- on
    refine And.intro (fun c37 => ?_) (fun c37 => ?_)
    · -- 45
      exact hX.2 _ _ [(0, .inr 0), (1, .inl _), (3, .inl _)] _ _ _ (mWc rfl (mWc rfl (mWc rfl mW0))) (b45 _ _ _ _ (rg_w (c := 0) (d := 8) (show rg 1 8 _ from (rg_neL hy32 (rg_c (a := 0) (b := 0) (by decide +kernel)) c36 (by decide +kernel))) (by decide +kernel)) (rg_w (c := 1) (d := 1) (rg_c (a := 1) (b := 1) (by decide +kernel)) (by decide +kernel)) (rP0 (rP0 hI (by decide +kernel)) (by decide +kernel)))
    · -- on
      refine k_X9_enter n 8000 f0 _ _ _ _ (rg_w (c := 1) (d := 8) (show rg 1 8 _ from (rg_neL hy32 (rg_c (a := 0) (b := 0) (by decide +kernel)) c36 (by decide +kernel))) (by decide +kernel)) (by omega) (rP0 (rP0 hI (by decide +kernel)) (by decide +kernel)) (fun f39 gf39 hI40 => ?_)
      exact hX.2 _ _ [(0, .inr 0), (3, .inl _)] _ _ _ (mWc rfl (mWc rfl mW0)) (b61 _ _ _ (rg_w (c := 1) (d := 1200008004) (rg_c (a := 4) (b := 4) (by decide +kernel)) (by decide +kernel)) hI40)
def SPX9_pass (S : mSp) : Prop := ∀ (n e : Int) (f0 f : mFn) (g : mGn) (K : mKr) (x1 : Int32), n + 400000 ≤ 300000000 → rI n 8000 f0 f g → (∀ (y : Int32) (f' : mFn) (g' : mGn), rI (n + 400000) 8000 f0 f' g' → K (some (.inl y)) f' g') → S [.inr 0, .inl x1] f g K
set_option maxRecDepth 100000 in
set_option maxHeartbeats 4000000 in
theorem sfX9_pass : SPX9_pass spX9_pass := by
  intro n e f0 f g K x1  hB hI hK
  refine ⟨rfl, fun X hX => ?_⟩
  obtain ⟨S_X9_right, k_X9_right, S_X9_stepped, k_X9_stepped, hX⟩ : ∃ S_X9_right, SPX9_right S_X9_right ∧ ∃ S_X9_stepped, SPX9_stepped S_X9_stepped ∧ mR shM fdX9_pass [(359, 0, 1, 12, S_X9_right), (356, 0, 0, 12, S_X9_stepped)] bsX9_pass (fun r f g => mRt (some .int) r ∧ K r f g) X := ⟨spX9_right, sfX9_right, spX9_stepped, sfX9_stepped, hX⟩
  have r35 : ∀ (t : Nat) (it : Int) (a1 : Int32) (a2 : Int32) (f : mFn) (g : mGn), rg 1 200000 a1 → rg 0 1200208004 a2 → 0 ≤ it → it ≤ a2.toInt → it ≤ 200000 → rI (n + 2 * it) 8000 f0 f g → (a1.toInt - a2.toInt).toNat < t → X 35 [(0, .inr 0), (1, .inl a1), (2, .inl a2)] [] f g := by
    intro t
    induction t with
    | zero => intro it a1 a2 f g ha1 ha2 h1 h2 h3 hI hm; exact absurd hm (Nat.not_lt_zero _)
    | succ t ih =>
      intro it a1 a2 f g ha1 ha2 h1 h2 h3 hI hm
      refine hX.1 5 _ rfl _ _ _ _ ?_
      refine And.intro (fun c20 => ?_) (fun c20 => ?_)
      · refine hX.1 6 _ rfl _ _ _ _ ?_
        exact And.intro mRt_i (hK _ _ _ (rM hI (by omega) (by omega)))
      · have h4 : rg 0 199999 a2 := rg_lt ha2 ha1 (rg_nle c20) (by decide +kernel)
        have h5 := h4.2
        have h6 := Int32.lt_iff_toInt_lt.mp (rg_nle c20)
        refine k_X9_stepped (n + 2 * it) 8000 f0 _ _ _ (by omega) hI (fun y f1 g1 hy hI1 => ?_)
        have hy1 := hy.1
        have hy2 := hy.2
        have h41 := h4.1
        have e1 : (a2 + y).toInt = a2.toInt + y.toInt := by
          rw [Int32.toInt_add]
          exact rg_bm (by omega) (by omega)
        exact hX.2 _ _ [(0, .inr 0), (1, .inl _), (2, .inl _)] _ _ _ (mWc rfl (mWc rfl (mWc rfl mW0))) (ih (it + 1) _ _ _ _ ha1 (show rg 0 1200208004 (a2 + y) from ⟨by rw [e1]; omega, by rw [e1]; omega⟩) (by omega) (by rw [e1]; omega) (by omega) (rN hI1 (by omega)) (by rw [e1]; omega))
  have b35 : ∀ (a1 : Int32) (f : mFn) (g : mGn), rg 1 200000 a1 → rI n 8000 f0 f g → X 35 [(0, .inr 0), (1, .inl a1), (2, .inl 0)] [] f g := by
    intro a1 f g ha1 hI
    exact r35 _ 0 _ _ _ _ ha1 (rg_c (a := 0) (b := 1200208004) (by decide +kernel)) (by omega) (by rw [rg_z]; omega) (by omega) (rN hI (by omega)) (Nat.lt_succ_self _)
  refine hX.1 0 _ rfl _ _ _ _ ?_
  refine And.intro (fun c24 => ?_) (fun c24 => ?_)
  · -- 17
    refine hX.1 1 _ rfl _ _ _ _ ?_
    refine hX.1 2 _ rfl _ _ _ _ ?_
    refine k_X9_right n 8000 f0 _ _ _ _ (rg_w (c := 0) (d := 1) (rg_c (a := 0) (b := 0) (by decide +kernel)) (by decide +kernel)) hI (fun f26 gf26 hI27 => ?_)
    refine And.intro (fun c28 => ?_) (fun c28 => ?_)
    · -- 31
      refine hX.1 3 _ rfl _ _ _ _ ?_
      exact And.intro mRt_i (hK _ _ _ (rM hI27 (by omega) (by omega)))
    · -- on
      exact (rg_no (show rg 1 0 _ from (rg_neN (rg_c (a := 0) (b := 0) (by decide +kernel)) (rg_c (a := 0) (b := 0) (by decide +kernel)) c28 (by decide +kernel))) (by decide +kernel)).elim
  · -- on
    refine And.intro (fun c29 => ?_) (fun c29 => ?_)
    · -- 17
      refine hX.1 1 _ rfl _ _ _ _ ?_
      refine hX.1 2 _ rfl _ _ _ _ ?_
      refine k_X9_right n 8000 f0 _ _ _ _ (rg_w (c := 0) (d := 1) (rg_c (a := 0) (b := 0) (by decide +kernel)) (by decide +kernel)) hI (fun f31 gf31 hI32 => ?_)
      refine And.intro (fun c33 => ?_) (fun c33 => ?_)
      · -- 31
        refine hX.1 3 _ rfl _ _ _ _ ?_
        exact And.intro mRt_i (hK _ _ _ (rM hI32 (by omega) (by omega)))
      · -- on
        exact (rg_no (show rg 1 0 _ from (rg_neN (rg_c (a := 0) (b := 0) (by decide +kernel)) (rg_c (a := 0) (b := 0) (by decide +kernel)) c33 (by decide +kernel))) (by decide +kernel)).elim
    · -- on
      refine hX.1 2 _ rfl _ _ _ _ ?_
      refine k_X9_right n 8000 f0 _ _ _ _ (rg_w (c := 0) (d := 1) (rg_c (a := 1) (b := 1) (by decide +kernel)) (by decide +kernel)) hI (fun f35 gf35 hI36 => ?_)
      refine And.intro (fun c37 => ?_) (fun c37 => ?_)
      · -- 31
        exact (rg_no (show rg 1 0 _ from (rg_eqN (rg_c (a := 1) (b := 1) (by decide +kernel)) (rg_c (a := 0) (b := 0) (by decide +kernel)) c37 (by decide +kernel))) (by decide +kernel)).elim
      · -- on
        refine And.intro (fun c38 => ?_) (fun c38 => ?_)
        · -- 33
          refine hX.1 4 _ rfl _ _ _ _ ?_
          exact hX.2 _ _ [(0, .inr 0), (1, .inl _), (2, .inl 0)] _ _ _ (mWc rfl (mWc rfl (mWc rfl mW0))) (b35 _ _ _ (rg_w (c := 1) (d := 200000) (show rg 1 200000 _ from (rg_le (show rg 1 2147483647 _ from (rg_ge (rg_all _) (rg_c (a := 1) (b := 1) (by decide +kernel)) (rg_nlt c24) (by decide +kernel))) (rg_c (a := 200000) (b := 200000) (by decide +kernel)) (rg_nlt c29) (by decide +kernel))) (by decide +kernel)) hI36)
        · -- on
          refine hX.1 3 _ rfl _ _ _ _ ?_
          exact And.intro mRt_i (hK _ _ _ (rM hI36 (by omega) (by omega)))
def SPX9_pins (S : mSp) : Prop := ∀ (n e : Int) (f0 f : mFn) (g : mGn) (K : mKr) (x1 : Int32), rI n e f0 f g → (∀ f' : mFn, rI n e (upd f0 8 (x1 &&& 255)) f' g → K (some (.inl (f0 8))) f' g) → S [.inr 0, .inl x1] f g K
set_option maxRecDepth 100000 in
theorem sfX9_pins : SPX9_pins spX9_pins := by
  intro n e f0 f g K x1 hI hK
  refine ⟨rfl, fun X hX => ?_⟩
  refine hX.1 0 _ rfl _ _ _ _ ?_
  have e1 : f 8 = f0 8 := hI.2.2.1 8 (by decide)
  have h1 : rI n e f0 (upd f 0 0) g := rP1 0 (rg_c (a := 0) (b := 1) (by decide +kernel)) hI (by decide +kernel)
  have h2 := hK (upd (upd f 0 0) 8 (x1 &&& 255)) (rFr h1 (rg_andR (rg_c (a := 255) (b := 255) (by decide +kernel)) (by decide +kernel)))
  rw [← e1] at h2
  exact And.intro mRt_i h2
def SPX9_power (S : mSp) : Prop := ∀ (n e : Int) (f0 f : mFn) (g : mGn) (K : mKr) (x1 : Int32), rg 0 1 x1 → rI n e f0 f g → (∀ (f' : mFn) (g' : mGn), rI n e (upd f0 9 x1) f' g' → K (some (.inl (f0 9))) f' g') → S [.inr 0, .inl x1] f g K
set_option maxRecDepth 100000 in
set_option maxHeartbeats 4000000 in
theorem sfX9_power : SPX9_power spX9_power := by
  intro n e f0 f g K x1 hx1 hI hK
  refine ⟨rfl, fun X hX => ?_⟩
  obtain ⟨S_X9_restart, k_X9_restart, hX⟩ : ∃ S_X9_restart, SPX9_restart S_X9_restart ∧ mR shM fdX9_power [(56, 0, 1, 12, S_X9_restart)] bsX9_power (fun r f g => mRt (some .boolean) r ∧ K r f g) X := ⟨spX9_restart, sfX9_restart, hX⟩
  have b63 : ∀ (a2 : Int32) (f : mFn) (g : mGn), a2 = f0 9 → rg 0 1 a2 → rI n e (upd f0 9 x1) f g → X 63 [(2, .inl a2)] [] f g := by
    intro a2 f g he ha2 hI
    refine hX.1 5 _ rfl _ _ _ _ ?_
    exact And.intro (mRt_z (rg_01 ha2 (by decide +kernel))) (by rw [he]; exact hK _ _ hI)
  have r25 : ∀ (t : Nat), ∀ (a2 : Int32) (a3 : Int32) (f : mFn) (g : mGn), a2 = f0 9 → rg 0 0 a2 → rg 0 1280 a3 → rI n e (upd f0 9 x1) f g → (1280 - Int32.toInt a3).toNat < t → X 25 [(0, .inr 0), (2, .inl a2), (3, .inl a3)] [] f g := by
    intro t
    induction t with
    | zero => intro a2 a3 f g he ha2 ha3 hI hm; exact absurd hm (Nat.not_lt_zero _)
    | succ t ih =>
      have b52 : ∀ (a2 : Int32) (a3 : Int32) (f : mFn) (g : mGn), a2 = f0 9 → rg 0 0 a2 → rg 0 1279 a3 → rI n e (upd f0 9 x1) f g → (1280 - Int32.toInt a3).toNat < t + 1 → X 52 [(0, .inr 0), (2, .inl a2), (3, .inl a3)] [] f g := by
        intro a2 a3 f g he ha2 ha3 hI hm
        refine hX.1 3 _ rfl _ _ _ _ ?_
        exact hX.2 _ _ [(0, .inr 0), (2, .inl _), (3, .inl _)] _ _ _ (mWc rfl (mWc rfl (mWc rfl mW0))) (ih _ _ _ _ he (rg_w (c := 0) (d := 0) ha2 (by decide +kernel)) (rg_w (c := 0) (d := 1280) (show rg 1 1280 _ from (rg_add ha3 (rg_c (a := 1) (b := 1) (by decide +kernel)) (by decide +kernel))) (by decide +kernel)) hI (lp_m (N := 1280) (rg_w (c := (-2147483648)) (d := 1279) ha3 (by decide +kernel)) hm))
      have b45 : ∀ (a2 : Int32) (a3 : Int32) (f : mFn) (g : mGn), a2 = f0 9 → rg 0 0 a2 → rg 0 1279 a3 → rI n e (upd f0 9 x1) f g → (1280 - Int32.toInt a3).toNat < t + 1 → X 45 [(0, .inr 0), (2, .inl a2), (3, .inl a3)] [] f g := by
        intro a2 a3 f g he ha2 ha3 hI hm
        refine hX.1 2 _ rfl _ _ _ _ ?_
        refine And.intro (rg_in ha3 (by decide +kernel)) ?_
        exact hX.2 _ _ [(0, .inr 0), (2, .inl _), (3, .inl _)] _ _ _ (mWc rfl (mWc rfl (mWc rfl mW0))) (b52 _ _ _ _ he (rg_w (c := 0) (d := 0) ha2 (by decide +kernel)) (rg_w (c := 0) (d := 1279) ha3 (by decide +kernel)) (gI_a1 hI 2 1280 (lo := 0) (hi := 255) (rg_w (c := 0) (d := 255) (rg_c (a := 0) (b := 0) (by decide +kernel)) (by decide +kernel)) (by decide +kernel)) hm)
      intro a2 a3 f g he ha2 ha3 hI hm
      refine hX.1 1 _ rfl _ _ _ _ ?_
      refine And.intro (fun c13 => ?_) (fun c13 => ?_)
      · -- 58
        refine hX.1 4 _ rfl _ _ _ _ ?_
        refine k_X9_restart n e (upd f0 9 x1) _ _ _ _ (rg_w (c := 1) (d := 8) (rg_c (a := 1) (b := 1) (by decide +kernel)) (by decide +kernel)) hI (fun f15 gf15 hI16 => ?_)
        exact hX.2 _ _ [(2, .inl _)] _ _ _ (mWc rfl mW0) (b63 _ _ _ he (rg_w (c := 0) (d := 1) ha2 (by decide +kernel)) hI16)
      · -- on
        refine And.intro (fun c17 => ?_) (fun c17 => ?_)
        · -- 45
          exact hX.2 _ _ [(0, .inr 0), (2, .inl _), (3, .inl _)] _ _ _ (mWc rfl (mWc rfl (mWc rfl mW0))) (b45 _ _ _ _ he (rg_w (c := 0) (d := 0) ha2 (by decide +kernel)) (rg_w (c := 0) (d := 1279) (show rg 0 31 _ from (rg_lt (show rg 0 1279 _ from (rg_lt ha3 (rg_c (a := 1280) (b := 1280) (by decide +kernel)) (rg_nle c13) (by decide +kernel))) (rg_c (a := 32) (b := 32) (by decide +kernel)) c17 (by decide +kernel))) (by decide +kernel)) hI hm)
        · -- on
          refine And.intro (fun c18 => ?_) (fun c18 => ?_)
          · -- 52
            exact hX.2 _ _ [(0, .inr 0), (2, .inl _), (3, .inl _)] _ _ _ (mWc rfl (mWc rfl (mWc rfl mW0))) (b52 _ _ _ _ he (rg_w (c := 0) (d := 0) ha2 (by decide +kernel)) (rg_w (c := 0) (d := 1279) (show rg 32 255 _ from (rg_lt (show rg 32 1279 _ from (rg_ge (show rg 0 1279 _ from (rg_lt ha3 (rg_c (a := 1280) (b := 1280) (by decide +kernel)) (rg_nle c13) (by decide +kernel))) (rg_c (a := 32) (b := 32) (by decide +kernel)) (rg_nlt c17) (by decide +kernel))) (rg_c (a := 256) (b := 256) (by decide +kernel)) c18 (by decide +kernel))) (by decide +kernel)) hI hm)
          · -- on
            exact hX.2 _ _ [(0, .inr 0), (2, .inl _), (3, .inl _)] _ _ _ (mWc rfl (mWc rfl (mWc rfl mW0))) (b45 _ _ _ _ he (rg_w (c := 0) (d := 0) ha2 (by decide +kernel)) (rg_w (c := 0) (d := 1279) (show rg 256 1279 _ from (rg_ge (show rg 32 1279 _ from (rg_ge (show rg 0 1279 _ from (rg_lt ha3 (rg_c (a := 1280) (b := 1280) (by decide +kernel)) (rg_nle c13) (by decide +kernel))) (rg_c (a := 32) (b := 32) (by decide +kernel)) (rg_nlt c17) (by decide +kernel))) (rg_c (a := 256) (b := 256) (by decide +kernel)) (rg_nlt c18) (by decide +kernel))) (by decide +kernel)) hI hm)
  have b25 : ∀ (a2 : Int32) (a3 : Int32) (f : mFn) (g : mGn), a2 = f0 9 → rg 0 0 a2 → rg 0 1280 a3 → rI n e (upd f0 9 x1) f g → X 25 [(0, .inr 0), (2, .inl a2), (3, .inl a3)] [] f g := by
    intro a2 a3 f g he ha2 ha3 hI
    exact r25 _ _ _ _ _ he ha2 ha3 hI (Nat.lt_succ_self _)
  have hE0 : f 9 = f0 9 := hI.2.2.1 9 (by decide)
  refine hX.1 0 _ rfl _ _ _ _ ?_
  refine And.intro (rg_01 hx1 (by decide +kernel)) ?_
  refine And.intro (fun c21 => ?_) (fun c21 => ?_)
  · -- 63
    exact hX.2 _ _ [(2, .inl _)] _ _ _ (mWc rfl mW0) (b63 _ _ _ hE0 (rg_w (c := 0) (d := 1) (gI_s (rP1 0 (rg_w (c := 0) (d := 1) (rg_c (a := 0) (b := 0) (by decide +kernel)) (by decide +kernel)) hI (by decide +kernel)) 4 9 0 1 rfl) (by decide +kernel)) (rFw (rP1 0 (rg_w (c := 0) (d := 1) (rg_c (a := 0) (b := 0) (by decide +kernel)) (by decide +kernel)) hI (by decide +kernel)) hx1))
  · -- on
    refine And.intro (fun c22 => ?_) (fun c22 => ?_)
    · -- 63
      exact hX.2 _ _ [(2, .inl _)] _ _ _ (mWc rfl mW0) (b63 _ _ _ hE0 (rg_w (c := 0) (d := 1) (show rg 1 1 _ from (rg_neL (gI_s (rP1 0 (rg_w (c := 0) (d := 1) (rg_c (a := 0) (b := 0) (by decide +kernel)) (by decide +kernel)) hI (by decide +kernel)) 4 9 0 1 rfl) (rg_c (a := 0) (b := 0) (by decide +kernel)) c22 (by decide +kernel))) (by decide +kernel)) (rFw (rP1 0 (rg_w (c := 0) (d := 1) (rg_c (a := 0) (b := 0) (by decide +kernel)) (by decide +kernel)) hI (by decide +kernel)) hx1))
    · -- on
      exact hX.2 _ _ [(0, .inr 0), (2, .inl _), (3, .inl _)] _ _ _ (mWc rfl (mWc rfl (mWc rfl mW0))) (b25 _ _ _ _ hE0 (rg_w (c := 0) (d := 0) (show rg 0 0 _ from (rg_eq (rg_c (a := 0) (b := 0) (by decide +kernel)) c22)) (by decide +kernel)) (rg_w (c := 0) (d := 1280) (rg_c (a := 0) (b := 0) (by decide +kernel)) (by decide +kernel)) (rFw (rP1 0 (rg_w (c := 0) (d := 1) (rg_c (a := 0) (b := 0) (by decide +kernel)) (by decide +kernel)) hI (by decide +kernel)) hx1))
def SPX9_put (S : mSp) : Prop := ∀ (n e : Int) (f0 f : mFn) (g : mGn) (K : mKr) (x1 x2 : Int32), rI n e f0 f g → (∀ (f' : mFn) (g' : mGn), (vPut x1 → f' 0 = 0) → (¬ vPut x1 → f' 0 = 1) → rI n e f0 f' g' → K none f' g') → S [.inr 0, .inl x1, .inl x2] f g K
set_option maxRecDepth 100000 in
set_option maxHeartbeats 4000000 in
theorem sfX9_put : SPX9_put spX9_put := by
  intro n e f0 f g K x1 x2 hI hK
  refine ⟨rfl, fun X hX => ?_⟩
  obtain ⟨S_1, k_1, hX⟩ : ∃ S_1, SQX9_right S_1 ∧ mR shM fdX9_put [(359, 0, 1, 12, S_1)] bsX9_put (fun r f g => mRt none r ∧ K r f g) X := ⟨spX9_right, sqX9_right, hX⟩
  have no : ¬ vPut x1 → X 41 [(0, .inr 0), (1, .inl x1), (2, .inl x2)] [.inr 0] f g := by
    intro h
    refine hX.1 4 _ rfl _ _ _ _ ?_
    refine hX.1 5 _ rfl _ _ _ _ ?_
    refine k_1 n e f0 _ _ _ _ (rg_c (a := 0) (b := 1) (by decide +kernel)) hI (fun f' ht _ hI' => ?_)
    refine And.intro (fun c => ?_) (fun c => absurd rfl c)
    refine hX.1 6 _ rfl _ _ _ _ ?_
    exact And.intro mRt_v (hK _ _ (fun z => absurd z h) (fun _ => ht rfl) hI')
  have yes : vPut x1 → X 37 [(0, .inr 0), (1, .inl x1), (2, .inl x2)] [.inr 0] f g := by
    intro h
    refine hX.1 3 _ rfl _ _ _ _ ?_
    refine hX.1 5 _ rfl _ _ _ _ ?_
    refine k_1 n e f0 _ _ _ _ (rg_c (a := 0) (b := 1) (by decide +kernel)) hI (fun f' _ ht hI' => ?_)
    refine And.intro (fun c => absurd c (show ¬ (1 : Int32) = 0 from by decide)) (fun _ => ?_)
    refine And.intro (vp_in_iff.mpr (by unfold vPut at h; constructor <;> omega)) ?_
    refine hX.1 6 _ rfl _ _ _ _ ?_
    exact And.intro mRt_v (hK _ _ (fun _ => ht (by decide)) (fun z => absurd h z) (gI_a1 hI' 2 1280 (lo := 0) (hi := 255) (rg_w (c := 0) (d := 255) (show rg 0 255 _ from (rg_andR (rg_c (a := 255) (b := 255) (by decide +kernel)) (by decide +kernel))) (by decide +kernel)) (by decide +kernel)))
  have b23 : ¬ (0 ≤ x1.toInt ∧ x1.toInt < 32) → ¬ (93 ≤ x1.toInt ∧ x1.toInt ≤ 95) → X 23 [(0, .inr 0), (1, .inl x1), (2, .inl x2)] [.inr 0] f g := by
    intro h1 h2
    refine hX.1 2 _ rfl _ _ _ _ ?_
    refine And.intro (fun c => ?_) (fun c => ?_)
    · have c1 : x1 < 256 := c
      have c2 := Int32.lt_iff_toInt_lt.mp c1
      rw [i_256] at c2
      exact no (by unfold vPut; omega)
    · have c1 : ¬ x1 < 256 := c
      have c2 := Int32.le_iff_toInt_le.mp (rg_nlt c1)
      rw [i_256] at c2
      refine And.intro (fun d => ?_) (fun d => ?_)
      · have d1 : 1280 ≤ x1 := d
        have d2 := Int32.le_iff_toInt_le.mp d1
        rw [i_1280] at d2
        exact no (by unfold vPut; omega)
      · have d1 : ¬ 1280 ≤ x1 := d
        have d2 := Int32.lt_iff_toInt_lt.mp (rg_nle d1)
        rw [i_1280] at d2
        exact yes (by unfold vPut; omega)
  have b11 : ¬ (0 ≤ x1.toInt ∧ x1.toInt < 32) → X 11 [(0, .inr 0), (1, .inl x1), (2, .inl x2)] [.inr 0] f g := by
    intro h1
    refine hX.1 1 _ rfl _ _ _ _ ?_
    refine And.intro (fun c => ?_) (fun c => ?_)
    · have c1 : x1 < 93 := c
      have c2 := Int32.lt_iff_toInt_lt.mp c1
      rw [i_93] at c2
      exact b23 h1 (by omega)
    · have c1 : ¬ x1 < 93 := c
      have c2 := Int32.le_iff_toInt_le.mp (rg_nlt c1)
      rw [i_93] at c2
      refine And.intro (fun d => ?_) (fun d => ?_)
      · have d1 : x1 ≤ 95 := d
        have d2 := Int32.le_iff_toInt_le.mp d1
        rw [i_95] at d2
        exact yes (by unfold vPut; omega)
      · have d1 : ¬ x1 ≤ 95 := d
        have d2 := Int32.lt_iff_toInt_lt.mp (rg_nle d1)
        rw [i_95] at d2
        exact b23 h1 (by omega)
  refine hX.1 0 _ rfl _ _ _ _ ?_
  have e0 : (0 : Int32).toInt = 0 := by decide
  refine And.intro (fun c => ?_) (fun c => ?_)
  · have c1 : x1 < 0 := c
    have c2 := Int32.lt_iff_toInt_lt.mp c1
    rw [e0] at c2
    exact b11 (by omega)
  · have c1 : ¬ x1 < 0 := c
    have c2 := Int32.le_iff_toInt_le.mp (rg_nlt c1)
    rw [e0] at c2
    refine And.intro (fun d => ?_) (fun d => ?_)
    · have d1 : x1 < 32 := d
      have d2 := Int32.lt_iff_toInt_lt.mp d1
      rw [i_32] at d2
      exact yes (by unfold vPut; omega)
    · have d1 : ¬ x1 < 32 := d
      have d2 := Int32.le_iff_toInt_le.mp (rg_nlt d1)
      rw [i_32] at d2
      exact b11 (by omega)
def SPX9_reset (S : mSp) : Prop := ∀ (n e : Int) (f0 f : mFn) (g : mGn) (K : mKr), rI n e f0 f g → (∀ (f' : mFn) (g' : mGn), rI n e f0 f' g' → K none f' g') → S [.inr 0] f g K
set_option maxRecDepth 100000 in
set_option maxHeartbeats 4000000 in
theorem sfX9_reset : SPX9_reset spX9_reset := by
  intro n e f0 f g K   hI hK
  refine ⟨rfl, fun X hX => ?_⟩
  obtain ⟨S_X9_restart, k_X9_restart, hX⟩ : ∃ S_X9_restart, SPX9_restart S_X9_restart ∧ mR shM fdX9_reset [(56, 0, 1, 12, S_X9_restart)] bsX9_reset (fun r f g => mRt none r ∧ K r f g) X := ⟨spX9_restart, sfX9_restart, hX⟩
  have b17 : ∀ (f : mFn) (g : mGn), rI n e f0 f g → X 17 [] [] f g := by
    intro f g  hI
    refine hX.1 1 _ rfl _ _ _ _ ?_
    exact And.intro mRt_v (hK _ _ hI)
  refine hX.1 0 _ rfl _ _ _ _ ?_
  refine And.intro (fun c7 => ?_) (fun c7 => ?_)
  · -- 17
    exact hX.2 _ _ [] _ _ _ mW0 (b17  _ _  (rP1 0 (rg_w (c := 0) (d := 1) (rg_c (a := 0) (b := 0) (by decide +kernel)) (by decide +kernel)) hI (by decide +kernel)))
  · -- on
    refine k_X9_restart n e f0 _ _ _ _ (rg_w (c := 1) (d := 8) (rg_c (a := 2) (b := 2) (by decide +kernel)) (by decide +kernel)) (rP1 0 (rg_w (c := 0) (d := 1) (rg_c (a := 0) (b := 0) (by decide +kernel)) (by decide +kernel)) hI (by decide +kernel)) (fun f9 gf9 hI10 => ?_)
    exact hX.2 _ _ [] _ _ _ mW0 (b17  _ _  hI10)
def SPX9_run (S : mSp) : Prop := ∀ (n e : Int) (f0 f : mFn) (g : mGn) (K : mKr) (x1 : Int32), n + 10000 ≤ 300000000 → rI n 8000 f0 f g → (∀ (y : Int32) (f' : mFn) (g' : mGn), rI (n + 10000) 8000 f0 f' g' → K (some (.inl y)) f' g') → S [.inr 0, .inl x1] f g K
set_option maxRecDepth 100000 in
set_option maxHeartbeats 4000000 in
theorem sfX9_run : SPX9_run spX9_run := by
  intro n e f0 f g K x1  hB hI hK
  refine ⟨rfl, fun X hX => ?_⟩
  obtain ⟨S_X9_right, k_X9_right, S_X9_stepped, k_X9_stepped, hX⟩ : ∃ S_X9_right, SPX9_right S_X9_right ∧ ∃ S_X9_stepped, SPX9_stepped S_X9_stepped ∧ mR shM fdX9_run [(359, 0, 1, 12, S_X9_right), (356, 0, 0, 12, S_X9_stepped)] bsX9_run (fun r f g => mRt (some .int) r ∧ K r f g) X := ⟨spX9_right, sfX9_right, spX9_stepped, sfX9_stepped, hX⟩
  have r37 : ∀ (t : Nat), ∀ (a1 : Int32) (a2 : Int32) (a3 : Int32) (f : mFn) (g : mGn), rg 1 5000 a1 → rg 0 5000 a3 → rI (n + 2 * Int32.toInt a3) 8000 f0 f g → (5000 - Int32.toInt a3).toNat < t → X 37 [(0, .inr 0), (1, .inl a1), (2, .inl a2), (3, .inl a3)] [] f g := by
    intro t
    induction t with
    | zero => intro a1 a2 a3 f g ha1 ha3 hI hm; exact absurd hm (Nat.not_lt_zero _)
    | succ t ih =>
      intro a1 a2 a3 f g ha1 ha3 hI hm
      refine hX.1 5 _ rfl _ _ _ _ ?_
      refine And.intro (fun c20 => ?_) (fun c20 => ?_)
      · -- 55
        refine hX.1 6 _ rfl _ _ _ _ ?_
        exact And.intro mRt_i (hK _ _ _ (rM hI (by have := ha3.1; have := ha3.2; omega) (by omega)))
      · -- on
        have h3 : rg 0 4999 a3 := rg_lt ha3 ha1 (rg_nle c20) (by decide +kernel)
        have h31 := h3.1
        have h32 := h3.2
        have h33 := inc1 h3 (by decide +kernel)
        refine k_X9_stepped (n + 2 * Int32.toInt a3) 8000 f0 _ _ _   (by omega) hI (fun y21 f22 gf22 hy21 hI23 => ?_)
        exact hX.2 _ _ [(0, .inr 0), (1, .inl _), (2, .inl _), (3, .inl _)] _ _ _ (mWc rfl (mWc rfl (mWc rfl (mWc rfl mW0)))) (ih _ _ _ _ _ (rg_w (c := 1) (d := 5000) ha1 (by decide +kernel)) (rg_w (c := 0) (d := 5000) (show rg 1 5000 _ from (rg_add (show rg 0 4999 _ from (rg_lt ha3 ha1 (rg_nle c20) (by decide +kernel))) (rg_c (a := 1) (b := 1) (by decide +kernel)) (by decide +kernel))) (by decide +kernel)) (rN hI23 (by rw [h33]; omega)) (lp_m (N := 5000) (rg_w (c := (-2147483648)) (d := 4999) (show rg 0 4999 _ from (rg_lt ha3 ha1 (rg_nle c20) (by decide +kernel))) (by decide +kernel)) hm))
  have b37 : ∀ (a1 : Int32) (a2 : Int32) (a3 : Int32) (f : mFn) (g : mGn), rg 1 5000 a1 → rg 0 5000 a3 → rI (n + 2 * Int32.toInt a3) 8000 f0 f g → X 37 [(0, .inr 0), (1, .inl a1), (2, .inl a2), (3, .inl a3)] [] f g := by
    intro a1 a2 a3 f g ha1 ha3 hI
    exact r37 _ _ _ _ _ _ ha1 ha3 hI (Nat.lt_succ_self _)
  refine hX.1 0 _ rfl _ _ _ _ ?_
  refine And.intro (fun c24 => ?_) (fun c24 => ?_)
  · -- 17
    refine hX.1 1 _ rfl _ _ _ _ ?_
    refine hX.1 2 _ rfl _ _ _ _ ?_
    refine k_X9_right n 8000 f0 _ _ _ _ (rg_w (c := 0) (d := 1) (rg_c (a := 0) (b := 0) (by decide +kernel)) (by decide +kernel)) hI (fun f26 gf26 hI27 => ?_)
    refine And.intro (fun c28 => ?_) (fun c28 => ?_)
    · -- 31
      refine hX.1 3 _ rfl _ _ _ _ ?_
      exact And.intro mRt_i (hK _ _ _ (rM hI27 (by omega) (by omega)))
    · -- on
      exact (rg_no (show rg 1 0 _ from (rg_neN (rg_c (a := 0) (b := 0) (by decide +kernel)) (rg_c (a := 0) (b := 0) (by decide +kernel)) c28 (by decide +kernel))) (by decide +kernel)).elim
  · -- on
    refine And.intro (fun c29 => ?_) (fun c29 => ?_)
    · -- 17
      refine hX.1 1 _ rfl _ _ _ _ ?_
      refine hX.1 2 _ rfl _ _ _ _ ?_
      refine k_X9_right n 8000 f0 _ _ _ _ (rg_w (c := 0) (d := 1) (rg_c (a := 0) (b := 0) (by decide +kernel)) (by decide +kernel)) hI (fun f31 gf31 hI32 => ?_)
      refine And.intro (fun c33 => ?_) (fun c33 => ?_)
      · -- 31
        refine hX.1 3 _ rfl _ _ _ _ ?_
        exact And.intro mRt_i (hK _ _ _ (rM hI32 (by omega) (by omega)))
      · -- on
        exact (rg_no (show rg 1 0 _ from (rg_neN (rg_c (a := 0) (b := 0) (by decide +kernel)) (rg_c (a := 0) (b := 0) (by decide +kernel)) c33 (by decide +kernel))) (by decide +kernel)).elim
    · -- on
      refine hX.1 2 _ rfl _ _ _ _ ?_
      refine k_X9_right n 8000 f0 _ _ _ _ (rg_w (c := 0) (d := 1) (rg_c (a := 1) (b := 1) (by decide +kernel)) (by decide +kernel)) hI (fun f35 gf35 hI36 => ?_)
      refine And.intro (fun c37 => ?_) (fun c37 => ?_)
      · -- 31
        exact (rg_no (show rg 1 0 _ from (rg_eqN (rg_c (a := 1) (b := 1) (by decide +kernel)) (rg_c (a := 0) (b := 0) (by decide +kernel)) c37 (by decide +kernel))) (by decide +kernel)).elim
      · -- on
        refine And.intro (fun c38 => ?_) (fun c38 => ?_)
        · -- 33
          refine hX.1 4 _ rfl _ _ _ _ ?_
          exact hX.2 _ _ [(0, .inr 0), (1, .inl _), (2, .inl _), (3, .inl _)] _ _ _ (mWc rfl (mWc rfl (mWc rfl (mWc rfl mW0)))) (b37 _ _ _ _ _ (rg_w (c := 1) (d := 5000) (show rg 1 5000 _ from (rg_le (show rg 1 2147483647 _ from (rg_ge (rg_all _) (rg_c (a := 1) (b := 1) (by decide +kernel)) (rg_nlt c24) (by decide +kernel))) (rg_c (a := 5000) (b := 5000) (by decide +kernel)) (rg_nlt c29) (by decide +kernel))) (by decide +kernel)) (rg_w (c := 0) (d := 5000) (rg_c (a := 0) (b := 0) (by decide +kernel)) (by decide +kernel)) (rN hI36 (show _ = _ + 2 * Int32.toInt 0 by rw [rg_z]; omega)))
        · -- on
          refine hX.1 3 _ rfl _ _ _ _ ?_
          exact And.intro mRt_i (hK _ _ _ (rM hI36 (by omega) (by omega)))
def SPX9_sent (S : mSp) : Prop := ∀ (n e : Int) (f0 f : mFn) (g : mGn) (K : mKr), rI n e f0 f g → (∀ (y : Int32) (f' : mFn) (g' : mGn), rg 0 2147483647 y → rI n e f0 f' g' → K (some (.inl y)) f' g') → S [.inr 0] f g K
set_option maxRecDepth 100000 in
set_option maxHeartbeats 4000000 in
theorem sfX9_sent : SPX9_sent spX9_sent := by
  intro n e f0 f g K   hI hK
  refine ⟨rfl, fun X hX => ?_⟩
  refine hX.1 0 _ rfl _ _ _ _ ?_
  exact And.intro mRt_i (hK _ _ _ (rg_w (c := 0) (d := 2147483647) (gI_s (rP1 0 (rg_w (c := 0) (d := 1) (rg_c (a := 0) (b := 0) (by decide +kernel)) (by decide +kernel)) hI (by decide +kernel)) 13 36 0 2147483647 rfl) (by decide +kernel)) (rP1 0 (rg_w (c := 0) (d := 1) (rg_c (a := 0) (b := 0) (by decide +kernel)) (by decide +kernel)) hI (by decide +kernel)))
def SPX9_start (S : mSp) : Prop := ∀ (n e : Int) (f0 f : mFn) (g : mGn) (K : mKr) (x1 : Int32), rI n e f0 f g → (∀ (f' : mFn) (g' : mGn), (rg 0 2047 x1 → f' 0 = 0) → (¬ rg 0 2047 x1 → f' 0 = 1) → rI n e f0 f' g' → K none f' g') → S [.inr 0, .inl x1] f g K
set_option maxRecDepth 100000 in
set_option maxHeartbeats 4000000 in
theorem sfX9_start : SPX9_start spX9_start := by
  intro n e f0 f g K x1 hI hK
  refine ⟨rfl, fun X hX => ?_⟩
  obtain ⟨S_1, k_1, hX⟩ : ∃ S_1, SQX9_right S_1 ∧ mR shM fdX9_start [(359, 0, 1, 12, S_1)] bsX9_start (fun r f g => mRt none r ∧ K r f g) X := ⟨spX9_right, sqX9_right, hX⟩
  have e48 : (2048 : Int32).toInt = 2048 := by decide
  have e0 : (0 : Int32).toInt = 0 := by decide
  have no : ¬ rg 0 2047 x1 → X 16 [(0, .inr 0), (1, .inl x1)] [.inr 0] f g := by
    intro h
    refine hX.1 1 _ rfl _ _ _ _ ?_
    refine hX.1 2 _ rfl _ _ _ _ ?_
    refine k_1 n e f0 _ _ _ _ (rg_c (a := 0) (b := 1) (by decide +kernel)) hI (fun f' ht _ hI' => ?_)
    refine And.intro (fun c => absurd rfl c) (fun c => ?_)
    exact And.intro mRt_v (hK _ _ (fun z => absurd z h) (fun _ => ht rfl) hI')
  refine hX.1 0 _ rfl _ _ _ _ ?_
  refine And.intro (fun c => no ?_) (fun c => ?_)
  · have d := Int32.lt_iff_toInt_lt.mp c
    rw [e0] at d
    intro h; unfold rg at h; omega
  have d := Int32.le_iff_toInt_le.mp (rg_nlt c)
  rw [e0] at d
  refine And.intro (fun c' => no ?_) (fun c' => ?_)
  · have d' := Int32.le_iff_toInt_le.mp c'
    rw [e48] at d'
    intro h; unfold rg at h; omega
  have d' := Int32.lt_iff_toInt_lt.mp (rg_nle c')
  rw [e48] at d'
  have hx : rg 0 2047 x1 := ⟨by omega, by omega⟩
  refine hX.1 2 _ rfl _ _ _ _ ?_
  refine k_1 n e f0 _ _ _ _ (rg_c (a := 0) (b := 1) (by decide +kernel)) hI (fun f' _ ht hI1 => ?_)
  refine And.intro (fun _ => ?_) (fun c => absurd c (show ¬ (1 : Int32) = 0 from by decide))
  refine hX.1 3 _ rfl _ _ _ _ ?_
  refine And.intro (rg_01 (rg_c (a := 0) (b := 0) (by decide +kernel)) (by decide +kernel)) ?_
  have h0 := ht (by decide)
  exact And.intro mRt_v (hK _ _ (fun _ => by simpa [upd] using h0) (fun z => absurd hx z) (rP0 (rP1 5 (rg_w (c := 0) (d := 2047) hx (by decide +kernel)) hI1 (by decide +kernel)) (by decide +kernel)))
def SPX9_step (S : mSp) : Prop := ∀ (n e : Int) (f0 f : mFn) (g : mGn) (K : mKr), n + 2 ≤ 300000000 → rI n 8000 f0 f g → (∀ (y : Int32) (f' : mFn) (g' : mGn), rg 0 1200008004 y → rI (n + 2) 8000 f0 f' g' → K (some (.inl y)) f' g') → S [.inr 0] f g K
set_option maxRecDepth 100000 in
set_option maxHeartbeats 4000000 in
theorem sfX9_step : SPX9_step spX9_step := by
  intro n e f0 f g K   hB hI hK
  refine ⟨rfl, fun X hX => ?_⟩
  obtain ⟨S_X9_stepped, k_X9_stepped, hX⟩ : ∃ S_X9_stepped, SPX9_stepped S_X9_stepped ∧ mR shM fdX9_step [(356, 0, 0, 12, S_X9_stepped)] bsX9_step (fun r f g => mRt (some .int) r ∧ K r f g) X := ⟨spX9_stepped, sfX9_stepped, hX⟩
  have b20 : ∀ (s0 : Int32) (f : mFn) (g : mGn), rg 0 1200008004 s0 → rI (n + 2) 8000 f0 f g → X 20 [] [.inl s0] f g := by
    intro s0 f g hs0 hI
    refine hX.1 2 _ rfl _ _ _ _ ?_
    exact And.intro mRt_i (hK _ _ _ (rg_w (c := 0) (d := 1200008004) hs0 (by decide +kernel)) hI)
  refine hX.1 0 _ rfl _ _ _ _ ?_
  refine And.intro (fun c7 => ?_) (fun c7 => ?_)
  · -- 19
    refine hX.1 1 _ rfl _ _ _ _ ?_
    exact hX.2 _ _ [] _ _ _ mW0 (b20 _ _ _ (rg_w (c := 0) (d := 1200008004) (rg_c (a := 0) (b := 0) (by decide +kernel)) (by decide +kernel)) (rM (rP1 0 (rg_w (c := 0) (d := 1) (rg_c (a := 0) (b := 0) (by decide +kernel)) (by decide +kernel)) hI (by decide +kernel)) (by omega) (by omega)))
  · -- on
    refine k_X9_stepped n 8000 f0 _ _ _   (by omega) (rP1 0 (rg_w (c := 0) (d := 1) (rg_c (a := 0) (b := 0) (by decide +kernel)) (by decide +kernel)) hI (by decide +kernel)) (fun y8 f9 gf9 hy8 hI10 => ?_)
    exact hX.2 _ _ [] _ _ _ mW0 (b20 _ _ _ (rg_w (c := 0) (d := 1200008004) hy8 (by decide +kernel)) hI10)
def SPX9_thrown (S : mSp) : Prop := ∀ (f : mFn) (g : mGn) (K : mKr), K (some (.inl (f 0))) f g → S [.inr 0] f g K
set_option maxRecDepth 100000 in
theorem sfX9_thrown : SPX9_thrown spX9_thrown := by
  intro f g K hK
  refine ⟨rfl, fun X hX => ?_⟩
  refine hX.1 0 _ rfl _ _ _ _ ?_
  exact And.intro mRt_i hK
def SPX9_word (S : mSp) : Prop := ∀ (n e : Int) (f0 f : mFn) (g : mGn) (K : mKr) (x1 : Int32), rI n e f0 f g → (∀ (y : Int32) (f' : mFn) (g' : mGn), rg 0 65535 y → rI n e f0 f' g' → K (some (.inl y)) f' g') → S [.inr 0, .inl x1] f g K
set_option maxRecDepth 100000 in
set_option maxHeartbeats 4000000 in
theorem sfX9_word : SPX9_word spX9_word := by
  intro n e f0 f g K x1  hI hK
  refine ⟨rfl, fun X hX => ?_⟩
  obtain ⟨S_X9_right, k_X9_right, hX⟩ : ∃ S_X9_right, SPX9_right S_X9_right ∧ mR shM fdX9_word [(359, 0, 1, 12, S_X9_right)] bsX9_word (fun r f g => mRt (some .int) r ∧ K r f g) X := ⟨spX9_right, sfX9_right, hX⟩
  refine hX.1 0 _ rfl _ _ _ _ ?_
  refine And.intro (fun c15 => ?_) (fun c15 => ?_)
  · -- 16
    refine hX.1 1 _ rfl _ _ _ _ ?_
    refine hX.1 2 _ rfl _ _ _ _ ?_
    refine k_X9_right n e f0 _ _ _ _ (rg_w (c := 0) (d := 1) (rg_c (a := 0) (b := 0) (by decide +kernel)) (by decide +kernel)) hI (fun f17 gf17 hI18 => ?_)
    refine And.intro (fun c19 => ?_) (fun c19 => ?_)
    · -- 32
      refine hX.1 3 _ rfl _ _ _ _ ?_
      refine hX.1 4 _ rfl _ _ _ _ ?_
      exact And.intro mRt_i (hK _ _ _ (rg_w (c := 0) (d := 65535) (rg_c (a := 0) (b := 0) (by decide +kernel)) (by decide +kernel)) hI18)
    · -- on
      exact (rg_no (show rg 1 0 _ from (rg_neN (rg_c (a := 0) (b := 0) (by decide +kernel)) (rg_c (a := 0) (b := 0) (by decide +kernel)) c19 (by decide +kernel))) (by decide +kernel)).elim
  · -- on
    refine And.intro (fun c20 => ?_) (fun c20 => ?_)
    · -- 16
      refine hX.1 1 _ rfl _ _ _ _ ?_
      refine hX.1 2 _ rfl _ _ _ _ ?_
      refine k_X9_right n e f0 _ _ _ _ (rg_w (c := 0) (d := 1) (rg_c (a := 0) (b := 0) (by decide +kernel)) (by decide +kernel)) hI (fun f22 gf22 hI23 => ?_)
      refine And.intro (fun c24 => ?_) (fun c24 => ?_)
      · -- 32
        refine hX.1 3 _ rfl _ _ _ _ ?_
        refine hX.1 4 _ rfl _ _ _ _ ?_
        exact And.intro mRt_i (hK _ _ _ (rg_w (c := 0) (d := 65535) (rg_c (a := 0) (b := 0) (by decide +kernel)) (by decide +kernel)) hI23)
      · -- on
        exact (rg_no (show rg 1 0 _ from (rg_neN (rg_c (a := 0) (b := 0) (by decide +kernel)) (rg_c (a := 0) (b := 0) (by decide +kernel)) c24 (by decide +kernel))) (by decide +kernel)).elim
    · -- on
      refine hX.1 2 _ rfl _ _ _ _ ?_
      refine k_X9_right n e f0 _ _ _ _ (rg_w (c := 0) (d := 1) (rg_c (a := 1) (b := 1) (by decide +kernel)) (by decide +kernel)) hI (fun f26 gf26 hI27 => ?_)
      refine And.intro (fun c28 => ?_) (fun c28 => ?_)
      · -- 32
        exact (rg_no (show rg 1 0 _ from (rg_eqN (rg_c (a := 1) (b := 1) (by decide +kernel)) (rg_c (a := 0) (b := 0) (by decide +kernel)) c28 (by decide +kernel))) (by decide +kernel)).elim
      · -- on
        refine And.intro (rg_in (show rg 0 2047 _ from (rg_lt (show rg 0 2147483647 _ from (rg_ge (rg_all _) (rg_c (a := 0) (b := 0) (by decide +kernel)) (rg_nlt c15) (by decide +kernel))) (rg_c (a := 2048) (b := 2048) (by decide +kernel)) (rg_nle c20) (by decide +kernel))) (by decide +kernel)) ?_
        refine hX.1 4 _ rfl _ _ _ _ ?_
        exact And.intro mRt_i (hK _ _ _ (rg_w (c := 0) (d := 65535) (gI_g hI27 0 1 2048 0 65535 rfl (rg_in (show rg 0 2047 _ from (rg_lt (show rg 0 2147483647 _ from (rg_ge (rg_all _) (rg_c (a := 0) (b := 0) (by decide +kernel)) (rg_nlt c15) (by decide +kernel))) (rg_c (a := 2048) (b := 2048) (by decide +kernel)) (rg_nle c20) (by decide +kernel))) (by decide +kernel))) (by decide +kernel)) hI27)

