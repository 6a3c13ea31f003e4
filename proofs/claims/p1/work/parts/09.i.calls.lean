/-! calls on fresh objects, as their callers take them -/
def w0 (a a' : eV) : Bool := decide (a' = a) && decide (a.1 ≤ 2)
theorem w0_ok {c c' : Nat → Int} (a a' : eV) (h : w0 a a' = true) (x : Int32) (hg : eG c a (.inl x)) : eG c' a' (.inl x) := by
  simp only [w0, Bool.and_eq_true, decide_eq_true_eq] at h
  obtain ⟨rfl, h⟩ := h
  exact eG_w h hg
theorem wk0M : eWk w0 s0M s0M = true := by decide +kernel
theorem gv {c : Nat → Int} {df : Nat → Nat → Nat} {s : eSt} {f : mFn} {g : mGn} (hs : eOk c df s f g) (j k n : Nat) (h : (s.1.getD j [])[k]? = some (1, n)) : f (64 * j + k) = Int32.ofNat n := Sum.inl.inj (eG_1 (hs.2.1 j k _ h))
theorem resC : spX8_resetBy [.inr 0, .inl 1] fC0 gC0 (fun r f g => r = none ∧ eOk e0 dfC s0C f g) :=
  eEv_ok e0_b prC 14 110 _ _ _ _ rC_init [.inr 0, .inl 1] fC0 gC0 _ ⟨eG_r 0, eG_c 1, trivial⟩ b0C_ok (fun v f g hv hs => by
    cases v with
    | none => exact ⟨rfl, hs⟩
    | some v => exact False.elim hv)
theorem resM : spX9_restart [.inr 0, .inl 1] fM0 gM0 (fun r f g => r = none ∧ eOk e0 dfM s0M f g) :=
  eEv_ok e0_b prM 14 48 _ _ _ _ rM_init [.inr 0, .inl 1] fM0 gM0 _ ⟨eG_r 0, eG_c 1, trivial⟩ b0M_ok (fun v f g hv hs => by
    cases v with
    | none => exact ⟨rfl, hs⟩
    | some v => exact False.elim hv)
/-- an allowed index -/
theorem ixC {id n : Nat} {ans : Nat → Nat} (h : ∀ a, a < n → eEv e0 e0 shC dfC pgC 1400 14 id [(0, 0), (1, a)] s0C = some (some (1, ans a), s0C)) {b : Nat} (hb : b + 1 = n) {x : Int32} (hx : rg 0 b x) {f : mFn} {g : mGn} (hs : eOk e0 dfC s0C f g) {K : mKr} (hK : ∀ f' g', eOk e0 dfC s0C f' g' → K (some (.inl (nI (ans x.toNatClampNeg)))) f' g') : spsC id [.inr 0, .inl x] f g K := by
  obtain ⟨k, rfl, -, h2, h3⟩ := rgNat (a := 0) hx
  rw [nI_clamp h3] at hK
  refine eEv_ok e0_b prC 14 id _ _ _ _ (h k (by omega)) [.inr 0, .inl (nI k)] f g K ⟨eG_r 0, eG_c k, trivial⟩ hs (fun v f' g' hv hs' => ?_)
  cases v with
  | none => exact False.elim hv
  | some v =>
    cases eG_1 hv
    exact hK f' g' hs'
theorem ixM {id n : Nat} {ans : Nat → Nat} (h : ∀ a, a < n → eEv e0 e0 shM dfM pgM 1400 14 id [(0, 0), (1, a)] s0M = some (some (1, ans a), s0M)) {b : Nat} (hb : b + 1 = n) {x : Int32} (hx : rg 0 b x) {f : mFn} {g : mGn} (hs : eOk e0 dfM s0M f g) {K : mKr} (hK : ∀ f' g', f' 0 = 0 → K (some (.inl (nI (ans x.toNatClampNeg)))) f' g') : spsM id [.inr 0, .inl x] f g K := by
  obtain ⟨k, rfl, -, h2, h3⟩ := rgNat (a := 0) hx
  rw [nI_clamp h3] at hK
  refine eEv_ok e0_b prM 14 id _ _ _ _ (h k (by omega)) [.inr 0, .inl (nI k)] f g K ⟨eG_r 0, eG_c k, trivial⟩ hs (fun v f' g' hv hs' => ?_)
  cases v with
  | none => exact False.elim hv
  | some v =>
    cases eG_1 hv
    exact hK f' g' (gv hs' 0 0 0 rfl)
/-- a refused one -/
theorem noM {id : Nat} {a b : Int} (hL : eEv (fun _ => -2147483648) (fun _ => a) shM dfM pgM 1400 14 id [(0, 0), (3, 0)] s0M = some (some (1, 0), t1M)) (hH : eEv (fun _ => b) (fun _ => 2147483647) shM dfM pgM 1400 14 id [(0, 0), (3, 0)] s0M = some (some (1, 0), t1M)) {x : Int32} (hx : x.toInt ≤ a ∨ b ≤ x.toInt) {f : mFn} {g : mGn} (hs : eOk e0 dfM s0M f g) {K : mKr} (hK : ∀ f' g', f' 0 = 1 → K (some (.inl 0)) f' g') : spsM id [.inr 0, .inl x] f g K := by
  have hs2 : eOk (fun _ => x.toInt) dfM s0M f g := eWk_ok (p := w0) w0_ok wk0M hs
  have h1 := (rg_all x).1
  have h2 := (rg_all x).2
  have ha : eSk (fun _ => x.toInt) [(0, 0), (3, 0)] [.inr 0, .inl x] := ⟨eG_r 0, Or.inr (Or.inr (Or.inl ⟨Nat.le_refl 3, x, rfl, (Int.add_zero _).symm⟩)), trivial⟩
  rcases hx with hx | hx
  · refine eEv_ok (c := fun _ => x.toInt) (lo := fun _ => -2147483648) (hi := fun _ => a) (fun _ => show (-2147483648 : Int) ≤ x.toInt ∧ x.toInt ≤ a from ⟨h1, hx⟩) prM 14 id _ _ _ _ hL [.inr 0, .inl x] f g K ha hs2 (fun v f' g' hv hs' => ?_)
    cases v with
    | none => exact False.elim hv
    | some v =>
      cases eG_1 (show eG (fun _ => x.toInt) (1, 0) v from hv)
      exact hK f' g' (gv hs' 0 0 1 rfl)
  · refine eEv_ok (c := fun _ => x.toInt) (lo := fun _ => b) (hi := fun _ => 2147483647) (fun _ => show b ≤ x.toInt ∧ x.toInt ≤ 2147483647 from ⟨hx, h2⟩) prM 14 id _ _ _ _ hH [.inr 0, .inl x] f g K ha hs2 (fun v f' g' hv hs' => ?_)
    cases v with
    | none => exact False.elim hv
    | some v =>
      cases eG_1 (show eG (fun _ => x.toInt) (1, 0) v from hv)
      exact hK f' g' (gv hs' 0 0 1 rfl)
theorem rgOr {a b : Int} {x : Int32} (h : ¬ rg a b x) : x.toInt ≤ a - 1 ∨ b + 1 ≤ x.toInt := by
  rcases Int.lt_or_le x.toInt a with z | z
  · left; omega
  · rcases Int.lt_or_le b x.toInt with y | y
    · right; omega
    · exact absurd ⟨z, y⟩ h
theorem pC_step {f : mFn} {g : mGn} (hs : eOk e0 dfC s0C f g) {K : mKr} (hK : ∀ f' g', K (some (.inl 1)) f' g') : spX8_step [.inr 0] f g K :=
  eEv_ok e0_b prC 14 112 _ _ _ _ rC_step [.inr 0] f g K ⟨eG_r 0, trivial⟩ hs (fun v f' g' hv hs' => by
    cases v with
    | none => exact False.elim hv
    | some v =>
      cases eG_1 hv
      exact hK f' g')
theorem pC_host {x : Int32} {f : mFn} {g : mGn} (hs : eOk e0 dfC s0C f g) {K : mKr} (hK : ∀ f' g', K (some (.inl 1)) f' g') : spX8_host [.inr 0, .inl x] f g K :=
  eEv_ok e0_b prC 14 103 _ _ _ _ rC_host [.inr 0, .inl x] f g K ⟨eG_r 0, eG_t 0 x, trivial⟩ hs (fun v f' g' hv hs' => by
    cases v with
    | none => exact False.elim hv
    | some v =>
      cases eG_1 hv
      exact hK f' g')
theorem pC_sent {f : mFn} {g : mGn} (hs : eOk e0 dfC s0C f g) {K : mKr} (hK : ∀ f' g', K (some (.inl 0)) f' g') : spX8_sent [.inr 0] f g K :=
  eEv_ok e0_b prC 14 111 _ _ _ _ rC_sent [.inr 0] f g K ⟨eG_r 0, trivial⟩ hs (fun v f' g' hv hs' => by
    cases v with
    | none => exact False.elim hv
    | some v =>
      cases eG_1 hv
      exact hK f' g')
theorem pC_pins {x : Int32} {f : mFn} {g : mGn} (hs : eOk e0 dfC s0C f g) {K : mKr} (hK : ∀ f' g', K (some (.inl 0)) f' g') : spX8_pins [.inr 0, .inl x] f g K :=
  eEv_ok e0_b prC 14 107 _ _ _ _ rC_pins [.inr 0, .inl x] f g K ⟨eG_r 0, eG_t 0 x, trivial⟩ hs (fun v f' g' hv hs' => by
    cases v with
    | none => exact False.elim hv
    | some v =>
      cases eG_1 hv
      exact hK f' g')
theorem pC_fuses {x : Int32} {f : mFn} {g : mGn} (hs : eOk e0 dfC s0C f g) {K : mKr} (hK : ∀ f' g', K (some (.inl 31)) f' g') : spX8_fuses [.inr 0, .inl x] f g K :=
  eEv_ok e0_b prC 14 102 _ _ _ _ rC_fuses [.inr 0, .inl x] f g K ⟨eG_r 0, eG_t 0 x, trivial⟩ hs (fun v f' g' hv hs' => by
    cases v with
    | none => exact False.elim hv
    | some v =>
      cases eG_1 hv
      exact hK f' g')
theorem pC_reset {f : mFn} {g : mGn} (hs : eOk e0 dfC s0C f g) {K : mKr} (hK : ∀ f' g', K none f' g') : spX8_reset [.inr 0] f g K :=
  eEv_ok e0_b prC 14 109 _ _ _ _ rC_reset [.inr 0] f g K ⟨eG_r 0, trivial⟩ hs (fun v f' g' hv hs' => by
    cases v with
    | none => exact hK f' g'
    | some v => exact False.elim hv)
theorem pC_power0 {f : mFn} {g : mGn} (hs : eOk e0 dfC s0C f g) {K : mKr} (hK : ∀ f' g', K (some (.inl 1)) f' g') : spX8_power [.inr 0, .inl 0] f g K :=
  eEv_ok e0_b prC 14 108 _ _ _ _ rC_power0 [.inr 0, .inl 0] f g K ⟨eG_r 0, eG_c 0, trivial⟩ hs (fun v f' g' hv hs' => by
    cases v with
    | none => exact False.elim hv
    | some v =>
      cases eG_1 hv
      exact hK f' g')
theorem pC_power1 {f : mFn} {g : mGn} (hs : eOk e0 dfC s0C f g) {K : mKr} (hK : ∀ f' g', K (some (.inl 1)) f' g') : spX8_power [.inr 0, .inl 1] f g K :=
  eEv_ok e0_b prC 14 108 _ _ _ _ rC_power1 [.inr 0, .inl 1] f g K ⟨eG_r 0, eG_c 1, trivial⟩ hs (fun v f' g' hv hs' => by
    cases v with
    | none => exact False.elim hv
    | some v =>
      cases eG_1 hv
      exact hK f' g')
theorem pM_step {f : mFn} {g : mGn} (hs : eOk e0 dfM s0M f g) {K : mKr} (hK : ∀ f' g', K (some (.inl 1)) f' g') : spX9_step [.inr 0] f g K :=
  eEv_ok e0_b prM 14 60 _ _ _ _ rM_step [.inr 0] f g K ⟨eG_r 0, trivial⟩ hs (fun v f' g' hv hs' => by
    cases v with
    | none => exact False.elim hv
    | some v =>
      cases eG_1 hv
      exact hK f' g')
theorem pM_host {x : Int32} {f : mFn} {g : mGn} (hs : eOk e0 dfM s0M f g) {K : mKr} (hK : ∀ f' g', K (some (.inl 1)) f' g') : spX9_host [.inr 0, .inl x] f g K :=
  eEv_ok e0_b prM 14 19 _ _ _ _ rM_host [.inr 0, .inl x] f g K ⟨eG_r 0, eG_t 0 x, trivial⟩ hs (fun v f' g' hv hs' => by
    cases v with
    | none => exact False.elim hv
    | some v =>
      cases eG_1 hv
      exact hK f' g')
theorem pM_sent {f : mFn} {g : mGn} (hs : eOk e0 dfM s0M f g) {K : mKr} (hK : ∀ f' g', K (some (.inl 0)) f' g') : spX9_sent [.inr 0] f g K :=
  eEv_ok e0_b prM 14 52 _ _ _ _ rM_sent [.inr 0] f g K ⟨eG_r 0, trivial⟩ hs (fun v f' g' hv hs' => by
    cases v with
    | none => exact False.elim hv
    | some v =>
      cases eG_1 hv
      exact hK f' g')
theorem pM_pins {x : Int32} {f : mFn} {g : mGn} (hs : eOk e0 dfM s0M f g) {K : mKr} (hK : ∀ f' g', K (some (.inl 0)) f' g') : spX9_pins [.inr 0, .inl x] f g K :=
  eEv_ok e0_b prM 14 35 _ _ _ _ rM_pins [.inr 0, .inl x] f g K ⟨eG_r 0, eG_t 0 x, trivial⟩ hs (fun v f' g' hv hs' => by
    cases v with
    | none => exact False.elim hv
    | some v =>
      cases eG_1 hv
      exact hK f' g')
theorem pM_fuses {x : Int32} {f : mFn} {g : mGn} (hs : eOk e0 dfM s0M f g) {K : mKr} (hK : ∀ f' g', K (some (.inl 31)) f' g') : spX9_fuses [.inr 0, .inl x] f g K :=
  eEv_ok e0_b prM 14 15 _ _ _ _ rM_fuses [.inr 0, .inl x] f g K ⟨eG_r 0, eG_t 0 x, trivial⟩ hs (fun v f' g' hv hs' => by
    cases v with
    | none => exact False.elim hv
    | some v =>
      cases eG_1 hv
      exact hK f' g')
theorem pM_reset {f : mFn} {g : mGn} (hs : eOk e0 dfM s0M f g) {K : mKr} (hK : ∀ f' g', K none f' g') : spX9_reset [.inr 0] f g K :=
  eEv_ok e0_b prM 14 47 _ _ _ _ rM_reset [.inr 0] f g K ⟨eG_r 0, trivial⟩ hs (fun v f' g' hv hs' => by
    cases v with
    | none => exact hK f' g'
    | some v => exact False.elim hv)
theorem pM_power0 {f : mFn} {g : mGn} (hs : eOk e0 dfM s0M f g) {K : mKr} (hK : ∀ f' g', K (some (.inl 1)) f' g') : spX9_power [.inr 0, .inl 0] f g K :=
  eEv_ok e0_b prM 14 42 _ _ _ _ rM_power0 [.inr 0, .inl 0] f g K ⟨eG_r 0, eG_c 0, trivial⟩ hs (fun v f' g' hv hs' => by
    cases v with
    | none => exact False.elim hv
    | some v =>
      cases eG_1 hv
      exact hK f' g')
theorem pM_power1 {f : mFn} {g : mGn} (hs : eOk e0 dfM s0M f g) {K : mKr} (hK : ∀ f' g', K (some (.inl 1)) f' g') : spX9_power [.inr 0, .inl 1] f g K :=
  eEv_ok e0_b prM 14 42 _ _ _ _ rM_power1 [.inr 0, .inl 1] f g K ⟨eG_r 0, eG_c 1, trivial⟩ hs (fun v f' g' hv hs' => by
    cases v with
    | none => exact False.elim hv
    | some v =>
      cases eG_1 hv
      exact hK f' g')
theorem pC_run {x : Int32} {f : mFn} {g : mGn} (hs : eOk e0 dfC s0C f g) (hz : rg 1 5000 x) {K : mKr} (hK : ∀ y f' g', y = nI (sumD x.toNatClampNeg) → K (some (.inl y)) f' g') : spX8_run [.inr 0, .inl x] f g K := by
  obtain ⟨n, rfl, h1, h2, h3⟩ := rgNat (a := 1) (b := 5000) hz
  rw [nI_clamp h3] at hK
  exact xrunC h1 h2 hs (fun f' g' => hK _ f' g' rfl)
theorem pC_pass {x : Int32} {f : mFn} {g : mGn} (hs : eOk e0 dfC s0C f g) (hz : rg 1 200000 x) {K : mKr} (hK : ∀ y f' g', aPass x.toNatClampNeg y → K (some (.inl y)) f' g') : spX8_pass [.inr 0, .inl x] f g K := by
  obtain ⟨n, rfl, h1, h2, h3⟩ := rgNat (a := 1) (b := 200000) hz
  rw [nI_clamp h3] at hK
  exact xpassC h1 h2 hs hK
theorem pC_got {x : Int32} {f : mFn} {g : mGn} (hs : eOk e0 dfC s0C f g) (hz : ¬ x < 0 ∧ ¬ f 325 ≤ x ∧ ¬ (1000 : Int32) ≤ x) : False := by
  obtain ⟨h1, h2, -⟩ := hz
  rw [show f 325 = 0 from gv hs 5 5 0 rfl, Int32.le_iff_toInt_le] at h2
  rw [Int32.lt_iff_toInt_lt] at h1
  omega
theorem pC_word {x : Int32} {f : mFn} {g : mGn} (hs : eOk e0 dfC s0C f g) (hz : rg 0 2047 x) {K : mKr} (hK : ∀ y f' g', y = gWords x.toNatClampNeg → K (some (.inl y)) f' g') : spX8_word [.inr 0, .inl x] f g K :=
  ixC (id := 113) (n := 2048) (ans := fun a => eN (gWords a)) rC_word rfl hz hs (fun f' g' _ => hK _ f' g' (eN_of _))
theorem pM_word {x : Int32} {f : mFn} {g : mGn} (hs : eOk e0 dfM s0M f g) {K : mKr} (hK : ∀ (y : Int32) (f' : mFn) (g' : mGn), (rg 0 2047 x → (y = gWords x.toNatClampNeg) ∧ f' 0 = 0) → (¬ rg 0 2047 x → f' 0 = 1) → K (some (.inl y)) f' g') : spX9_word [.inr 0, .inl x] f g K := by
  by_cases hz : rg 0 2047 x
  · exact ixM (id := 73) (n := 2048) (ans := fun a => eN (gWords a)) rM_word rfl hz hs (fun f' g' h => hK _ f' g' (fun _ => ⟨eN_of _, h⟩) (fun h => absurd hz h))
  · exact noM (id := 73) (a := -1) (b := 2048) rM_wordL rM_wordH (by have := rgOr hz; omega) hs (fun f' g' h => hK _ f' g' (fun h => absurd h hz) (fun _ => h))
theorem pC_data {x : Int32} {f : mFn} {g : mGn} (hs : eOk e0 dfC s0C f g) (hz : rg 0 1279 x) {K : mKr} (hK : ∀ y f' g', y = nI (datN x.toNatClampNeg) → K (some (.inl y)) f' g') : spX8_data [.inr 0, .inl x] f g K :=
  ixC (id := 100) (n := 1280) (ans := datN) rC_data rfl hz hs (fun f' g' _ => hK _ f' g' (rfl))
theorem pM_data {x : Int32} {f : mFn} {g : mGn} (hs : eOk e0 dfM s0M f g) {K : mKr} (hK : ∀ (y : Int32) (f' : mFn) (g' : mGn), (rg 0 1279 x → (y = nI (datN x.toNatClampNeg)) ∧ f' 0 = 0) → (¬ rg 0 1279 x → f' 0 = 1) → K (some (.inl y)) f' g') : spX9_data [.inr 0, .inl x] f g K := by
  by_cases hz : rg 0 1279 x
  · exact ixM (id := 7) (n := 1280) (ans := datN) rM_data rfl hz hs (fun f' g' h => hK _ f' g' (fun _ => ⟨rfl, h⟩) (fun h => absurd hz h))
  · exact noM (id := 7) (a := -1) (b := 1280) rM_dataL rM_dataH (by have := rgOr hz; omega) hs (fun f' g' h => hK _ f' g' (fun h => absurd h hz) (fun _ => h))
theorem pC_eeprom {x : Int32} {f : mFn} {g : mGn} (hs : eOk e0 dfC s0C f g) (hz : rg 0 255 x) {K : mKr} (hK : ∀ y f' g', y = 255 → K (some (.inl y)) f' g') : spX8_eeprom [.inr 0, .inl x] f g K :=
  ixC (id := 101) (n := 256) (ans := fun _ => 255) rC_eeprom rfl hz hs (fun f' g' _ => hK _ f' g' (rfl))
theorem pM_eeprom {x : Int32} {f : mFn} {g : mGn} (hs : eOk e0 dfM s0M f g) {K : mKr} (hK : ∀ (y : Int32) (f' : mFn) (g' : mGn), (rg 0 255 x → (y = 255) ∧ f' 0 = 0) → (¬ rg 0 255 x → f' 0 = 1) → K (some (.inl y)) f' g') : spX9_eeprom [.inr 0, .inl x] f g K := by
  by_cases hz : rg 0 255 x
  · exact ixM (id := 10) (n := 256) (ans := fun _ => 255) rM_eeprom rfl hz hs (fun f' g' h => hK _ f' g' (fun _ => ⟨rfl, h⟩) (fun h => absurd hz h))
  · exact noM (id := 10) (a := -1) (b := 256) rM_eepromL rM_eepromH (by have := rgOr hz; omega) hs (fun f' g' h => hK _ f' g' (fun h => absurd h hz) (fun _ => h))
theorem pC_about {x : Int32} {f : mFn} {g : mGn} (hs : eOk e0 dfC s0C f g) (hz : rg 0 21 x) {K : mKr} (hK : ∀ y f' g', y = nI (aboN x.toNatClampNeg) → K (some (.inl y)) f' g') : spX8_about [.inr 0, .inl x] f g K :=
  ixC (id := 99) (n := 22) (ans := aboN) rC_about rfl hz hs (fun f' g' _ => hK _ f' g' (rfl))
theorem pM_about {x : Int32} {f : mFn} {g : mGn} (hs : eOk e0 dfM s0M f g) {K : mKr} (hK : ∀ (y : Int32) (f' : mFn) (g' : mGn), (rg 0 21 x → (y = nI (aboN x.toNatClampNeg)) ∧ f' 0 = 0) → (¬ rg 0 21 x → f' 0 = 1) → K (some (.inl y)) f' g') : spX9_about [.inr 0, .inl x] f g K := by
  by_cases hz : rg 0 21 x
  · exact ixM (id := 0) (n := 22) (ans := aboN) rM_about rfl hz hs (fun f' g' h => hK _ f' g' (fun _ => ⟨rfl, h⟩) (fun h => absurd hz h))
  · exact noM (id := 0) (a := -1) (b := 22) rM_aboutL rM_aboutH (by have := rgOr hz; omega) hs (fun f' g' h => hK _ f' g' (fun h => absurd h hz) (fun _ => h))
theorem pM_got {x : Int32} {f : mFn} {g : mGn} (hs : eOk e0 dfM s0M f g) {K : mKr} (hK : ∀ (y : Int32) (f' : mFn) (g' : mGn), (False → False ∧ f' 0 = 0) → (¬ False → f' 0 = 1) → K (some (.inl y)) f' g') : spX9_got [.inr 0, .inl x] f g K :=
  noM (id := 16) (a := -1) (b := 0) rM_gotL rM_gotH (by omega) hs (fun f' g' h => hK _ f' g' (fun h => h.elim) (fun _ => h))
theorem pM_run {x : Int32} {f : mFn} {g : mGn} (hs : eOk e0 dfM s0M f g) {K : mKr} (hK : ∀ (y : Int32) (f' : mFn) (g' : mGn), (rg 1 5000 x → (y = nI (sumD x.toNatClampNeg)) ∧ f' 0 = 0) → (¬ rg 1 5000 x → f' 0 = 1) → K (some (.inl y)) f' g') : spX9_run [.inr 0, .inl x] f g K := by
  by_cases hz : rg 1 5000 x
  · obtain ⟨n, rfl, h1, h2, h3⟩ := rgNat (a := 1) (b := 5000) hz
    rw [nI_clamp h3] at hK
    exact xrunM h1 h2 hs (fun f' g' hI => hK _ f' g' (fun _ => ⟨rfl, thr0 hI⟩) (fun h => absurd hz h))
  · exact noM (id := 50) (a := 0) (b := 5001) rM_runL rM_runH (by have := rgOr hz; omega) hs (fun f' g' h => hK _ f' g' (fun h => absurd h hz) (fun _ => h))
theorem pM_pass {x : Int32} {f : mFn} {g : mGn} (hs : eOk e0 dfM s0M f g) {K : mKr} (hK : ∀ (y : Int32) (f' : mFn) (g' : mGn), (rg 1 200000 x → (aPass x.toNatClampNeg y) ∧ f' 0 = 0) → (¬ rg 1 200000 x → f' 0 = 1) → K (some (.inl y)) f' g') : spX9_pass [.inr 0, .inl x] f g K := by
  by_cases hz : rg 1 200000 x
  · obtain ⟨n, rfl, h1, h2, h3⟩ := rgNat (a := 1) (b := 200000) hz
    rw [nI_clamp h3] at hK
    exact xpassM h1 h2 hs (fun y k f' g' hy hI => hK _ f' g' (fun _ => ⟨hy, thr0 hI⟩) (fun h => absurd hz h))
  · exact noM (id := 33) (a := 0) (b := 200001) rM_passL rM_passH (by have := rgOr hz; omega) hs (fun f' g' h => hK _ f' g' (fun h => absurd h hz) (fun _ => h))
theorem ldr_rg : ∀ k, k < 182 → rg 0 65535 (ldr k) := by
  have h : ∀ k, k < 182 → (decide ((0 : Int) ≤ (ldr k).toInt) && decide ((ldr k).toInt ≤ 65535)) = true := by decide +kernel
  exact fun k hk => rg_c (h k hk)
theorem gWords_rg : ∀ i, i < 2048 → rg 0 65535 (gWords i) := by
  intro i hi
  unfold gWords va_cpy
  by_cases h : 1536 ≤ i ∧ i < 1536 + 182
  · rw [if_pos h]
    exact ldr_rg _ (by omega)
  · rw [if_neg h]
    show rg 0 65535 (if i < 2048 then 65535 else 0)
    rw [if_pos hi]
    exact rg_c (by decide)
theorem gM0_rg : ∀ q ∈ ALr, ∀ i, i < q.2.1 → rg q.2.2.1 q.2.2.2 (gM0 q.1 i) := by
  intro q hq i hi
  simp only [ALr, List.mem_cons, List.not_mem_nil, or_false] at hq
  rcases hq with rfl | rfl | rfl | rfl | rfl | rfl | rfl
  · exact gWords_rg i hi
  · exact show rg 0 65535 0 from rg_c (by decide)
  · exact show rg 0 255 0 from rg_c (by decide)
  · show rg 0 255 (if i < 256 then 255 else 0)
    rw [if_pos hi]
    exact rg_c (by decide)
  · exact show rg 0 1 0 from rg_c (by decide)
  · exact show rg 0 255 0 from rg_c (by decide)
  · exact show rg 0 255 0 from rg_c (by decide)
theorem cI_of {f : mFn} {g : mGn} (hs : eOk e0 dfC s0C f g) : cI 1 0 f f g := by
  have e2 : f 2 = Int32.ofNat 1 := gv hs 0 2 1 rfl
  have e322 : f 322 = Int32.ofNat 0 := gv hs 5 2 0 rfl
  have e323 : f 323 = Int32.ofNat 0 := gv hs 5 3 0 rfl
  have e325 : f 325 = Int32.ofNat 0 := gv hs 5 5 0 rfl
  have e72 : f 72 = Int32.ofNat 0 := gv hs 1 8 0 rfl
  have e329 : f 329 = Int32.ofNat 0 := gv hs 5 9 0 rfl
  have e327 : f 327 = Int32.ofNat 0 := gv hs 5 7 0 rfl
  refine ⟨?_, fun q hq => absurd hq List.not_mem_nil, fun k hk => rfl, ?_⟩
  · intro q hq
    simp only [SLc, List.mem_cons, List.not_mem_nil, or_false] at hq
    rcases hq with rfl | rfl | rfl | rfl | rfl
    · show rg 0 1 (f 2)
      rw [e2]
      exact rg_c (by decide)
    · show rg 0 299 (f 322)
      rw [e322]
      exact rg_c (by decide)
    · show rg 0 300 (f 323)
      rw [e323]
      exact rg_c (by decide)
    · show rg 0 2147483647 (f 325)
      rw [e325]
      exact rg_c (by decide)
    · show rg 0 1200000000 (f 72)
      rw [e72]
      exact rg_c (by decide)
  · unfold cnc
    rw [e325, e329, e327, e72]
    decide
theorem rI_of {f : mFn} {g : mGn} (hs : eOk e0 dfM s0M f g) : rI 1 8000 f f g := by
  have e0 : f 0 = Int32.ofNat 0 := gv hs 0 0 0 rfl
  have e6 : f 6 = Int32.ofNat 15 := gv hs 0 6 15 rfl
  have e7 : f 7 = Int32.ofNat 1 := gv hs 0 7 1 rfl
  have e8 : f 8 = Int32.ofNat 0 := gv hs 0 8 0 rfl
  have e9 : f 9 = Int32.ofNat 1 := gv hs 0 9 1 rfl
  have e12 : f 12 = Int32.ofNat 1536 := gv hs 0 12 1536 rfl
  have e25 : f 25 = Int32.ofNat 4294967295 := gv hs 0 25 4294967295 rfl
  have e26 : f 26 = Int32.ofNat 0 := gv hs 0 26 0 rfl
  have e28 : f 28 = Int32.ofNat 0 := gv hs 0 28 0 rfl
  have e30 : f 30 = Int32.ofNat 0 := gv hs 0 30 0 rfl
  have e31 : f 31 = Int32.ofNat 0 := gv hs 0 31 0 rfl
  have e32 : f 32 = Int32.ofNat 0 := gv hs 0 32 0 rfl
  have e35 : f 35 = Int32.ofNat 0 := gv hs 0 35 0 rfl
  have e36 : f 36 = Int32.ofNat 0 := gv hs 0 36 0 rfl
  have e37 : f 37 = Int32.ofNat 0 := gv hs 0 37 0 rfl
  have e27 : f 27 = Int32.ofNat 0 := gv hs 0 27 0 rfl
  have hrow : ∀ j i, (s0M.2.getD j []) = [] → g j i = gM0 j i := fun j i hj => by
    have h := hs.2.2 j i
    rw [hj] at h
    have h2 := Sum.inl.inj (eG_1 (n := dfM j i) h)
    rw [h2]
    exact eN_of _
  have h3 : ∀ i, i < 1280 → rg 0 255 (g 3 i) := by
    intro i hi
    have h := hs.2.2 3 i
    have key : ∀ i, i < 1280 → (eRg (dfM 3) (s0M.2.getD 3 []) i).1 = 1 ∧ (eRg (dfM 3) (s0M.2.getD 3 []) i).2 ≤ 255 := by decide +kernel
    obtain ⟨k1, k2⟩ := key i hi
    generalize eRg (dfM 3) (s0M.2.getD 3 []) i = a at h k1 k2
    obtain ⟨a1, a2⟩ := a
    dsimp only at k1 k2
    subst k1
    have h2 := Sum.inl.inj (eG_1 h)
    rw [h2]
    have e : (Int32.ofNat a2).toInt = (a2 : Int) := nI_toInt (n := a2) (by omega)
    exact ⟨by rw [e]; omega, by rw [e]; omega⟩
  refine ⟨?_, ?_, fun k hk => rfl, ?_⟩
  · intro q hq
    simp only [SLr, List.mem_cons, List.not_mem_nil, or_false] at hq
    rcases hq with rfl | rfl | rfl | rfl | rfl | rfl | rfl | rfl | rfl | rfl | rfl | rfl | rfl | rfl | rfl
    · show rg 0 1 (f 0)
      rw [e0]
      exact rg_c (by decide)
    · show rg 0 15 (f 6)
      rw [e6]
      exact rg_c (by decide)
    · show rg 0 1 (f 7)
      rw [e7]
      exact rg_c (by decide)
    · show rg 0 255 (f 8)
      rw [e8]
      exact rg_c (by decide)
    · show rg 0 1 (f 9)
      rw [e9]
      exact rg_c (by decide)
    · show rg 0 2047 (f 12)
      rw [e12]
      exact rg_c (by decide)
    · show rg (-1) 255 (f 25)
      rw [e25]
      exact rg_c (by decide)
    · show rg 0 255 (f 26)
      rw [e26]
      exact rg_c (by decide)
    · show rg 0 255 (f 28)
      rw [e28]
      exact rg_c (by decide)
    · show rg 0 255 (f 30)
      rw [e30]
      exact rg_c (by decide)
    · show rg 0 255 (f 31)
      rw [e31]
      exact rg_c (by decide)
    · show rg 0 2 (f 32)
      rw [e32]
      exact rg_c (by decide)
    · show rg 0 300 (f 35)
      rw [e35]
      exact rg_c (by decide)
    · show rg 0 2147483647 (f 36)
      rw [e36]
      exact rg_c (by decide)
    · show rg 0 1200008000 (f 37)
      rw [e37]
      exact rg_c (by decide)
  · intro q hq i hi
    by_cases hq3 : q.1 = 3
    · have e : q = (3, 1280, 0, 255) := by
        have key : ∀ q ∈ ALr, q.1 = 3 → q = (3, 1280, 0, 255) := by decide
        exact key q hq hq3
      subst e
      exact h3 i hi
    · have key : ∀ q ∈ ALr, q.1 ≠ 3 → s0M.2.getD q.1 [] = [] := by decide +kernel
      rw [hrow q.1 i (key q hq hq3)]
      exact gM0_rg q hq i hi
  · unfold cnr
    rw [e36, e27, e25, e37]
    decide
