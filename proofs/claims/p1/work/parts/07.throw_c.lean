/-! when the methods refuse: the road to the throw -/
theorem v_ge {x a : Int32} {z : Int} (h : ¬ x < a) (e : a.toInt = z) : z ≤ x.toInt := by rw [← e]; exact Int32.le_iff_toInt_le.mp (rg_nlt h)
theorem v_lt {x a : Int32} {z : Int} (h : ¬ a ≤ x) (e : a.toInt = z) : x.toInt < z := by rw [← e]; exact Int32.lt_iff_toInt_lt.mp (rg_nle h)
theorem v_ltp {x a : Int32} {z : Int} (h : x < a) (e : a.toInt = z) : x.toInt < z := by rw [← e]; exact Int32.lt_iff_toInt_lt.mp h
theorem v_lep {x a : Int32} {z : Int} (h : x ≤ a) (e : a.toInt = z) : x.toInt ≤ z := by rw [← e]; exact Int32.le_iff_toInt_le.mp h
def SQX8_inFlash (S : mSp) : Prop := ∀ (f : mFn) (g : mGn) (K : mKr) (x1 : Int32), ¬ rg 0 2047 x1 → K (some (.inl 0)) f g → S [.inl x1] f g K
theorem sqX8_inFlash : SQX8_inFlash spX8_inFlash := by
  intro f g K x1 hn hK
  refine ⟨rfl, fun X hX => ?_⟩
  have b15 : X 15 [] [] f g := by
    refine hX.1 1 _ rfl _ _ _ _ ?_
    refine hX.1 2 _ rfl _ _ _ _ ?_
    exact And.intro (mRt_z (Or.inl rfl)) hK
  refine hX.1 0 _ rfl _ _ _ _ ?_
  refine And.intro (fun _ => hX.2 _ _ [] _ _ _ mW0 b15) (fun c => ?_)
  refine And.intro (fun _ => hX.2 _ _ [] _ _ _ mW0 b15) (fun d => ?_)
  exact absurd ⟨v_ge c (by decide), Int.le_of_lt_add_one (v_lt d (by decide))⟩ hn
theorem rdX8_word {f : mFn} {g : mGn} {x1 : Int32} (hn : ¬ rg 0 2047 x1) : mTh shC fdX8_word clX8_word bsX8_word 7 2 [.inr 0, .inl x1] f g := by
  refine ⟨rfl, fun X hX hT => ?_⟩
  obtain ⟨S_1, k_1, hX⟩ : ∃ S_1, SQX8_inFlash S_1 ∧ mR shC fdX8_word [(70, 1, 1, 0, S_1)] bsX8_word (fun _ _ _ => False) X := ⟨spX8_inFlash, sqX8_inFlash, hX⟩
  refine hX.1 0 _ rfl _ _ _ _ ?_
  refine k_1 _ _ _ _ hn ?_
  exact And.intro (fun c => absurd rfl c) (fun _ => hX.2 _ _ [] _ _ _ mW0 hT)
theorem rdX8_start {f : mFn} {g : mGn} {x1 : Int32} (hn : ¬ rg 0 2047 x1) : mTh shC fdX8_start clX8_start bsX8_start 7 2 [.inr 0, .inl x1] f g := by
  refine ⟨rfl, fun X hX hT => ?_⟩
  obtain ⟨S_1, k_1, hX⟩ : ∃ S_1, SQX8_inFlash S_1 ∧ ∃ S_2, mR shC fdX8_start [(70, 1, 1, 0, S_1), S_2] bsX8_start (fun _ _ _ => False) X := ⟨spX8_inFlash, sqX8_inFlash, _, hX⟩
  obtain ⟨S_2, hX⟩ := hX
  refine hX.1 0 _ rfl _ _ _ _ ?_
  refine k_1 _ _ _ _ hn ?_
  exact And.intro (fun c => absurd rfl c) (fun _ => hX.2 _ _ [] _ _ _ mW0 hT)
theorem rdX8_burn {f : mFn} {g : mGn} {x1 x2 x3 x4 x5 x6 : Int32} (hn : ¬ rg 0 2047 x1) : mTh shC fdX8_burn clX8_burn bsX8_burn 7 7 [.inr 0, .inl x1, .inl x2, .inl x3, .inl x4, .inl x5, .inl x6] f g := by
  refine ⟨rfl, fun X hX hT => ?_⟩
  obtain ⟨S_1, k_1, S_2, hX⟩ : ∃ S_1, SQX8_inFlash S_1 ∧ ∃ S_2, mR shC fdX8_burn [(70, 1, 1, 0, S_1), S_2] bsX8_burn (fun _ _ _ => False) X := ⟨spX8_inFlash, sqX8_inFlash, _, hX⟩
  refine hX.1 0 _ rfl _ _ _ _ ?_
  refine k_1 _ _ _ _ hn ?_
  exact And.intro (fun c => absurd rfl c) (fun _ => hX.2 _ _ [] _ _ _ mW0 hT)
theorem rdX8_put {f : mFn} {g : mGn} {x1 x2 : Int32} (hn : ¬ vPut x1) : mTh shC fdX8_put clX8_put bsX8_put 7 3 [.inr 0, .inl x1, .inl x2] f g := by
  refine ⟨rfl, fun X hX hT => ?_⟩
  obtain ⟨S_1, k_1, hX⟩ : ∃ S_1, SPX8_canBePut S_1 ∧ mR shC fdX8_put [(100, 1, 1, 0, S_1)] bsX8_put (fun _ _ _ => False) X := ⟨spX8_canBePut, sfX8_canBePut, hX⟩
  refine hX.1 0 _ rfl _ _ _ _ ?_
  refine k_1 _ _ _ _ (fun y h0 h1 => ?_)
  exact And.intro (fun c => absurd (h1 c) hn) (fun _ => hX.2 _ _ [] _ _ _ mW0 hT)
theorem rdX8_data {f : mFn} {g : mGn} {x1 : Int32} (hn : ¬ rg 0 1279 x1) : mTh shC fdX8_data clX8_data bsX8_data 11 2 [.inr 0, .inl x1] f g := by
  refine ⟨rfl, fun X hX hT => ?_⟩
  refine hX.1 0 _ rfl _ _ _ _ ?_
  refine And.intro (fun _ => hX.2 _ _ [] _ _ _ mW0 hT) (fun c => ?_)
  exact And.intro (fun d => absurd ⟨v_ge c (by decide), Int.le_of_lt_add_one (v_ltp d (by decide))⟩ hn) (fun _ => hX.2 _ _ [] _ _ _ mW0 hT)
theorem rdX8_eeprom {f : mFn} {g : mGn} {x1 : Int32} (hn : ¬ rg 0 255 x1) : mTh shC fdX8_eeprom clX8_eeprom bsX8_eeprom 19 2 [.inr 0, .inl x1] f g := by
  refine ⟨rfl, fun X hX hT => ?_⟩
  refine hX.1 0 _ rfl _ _ _ _ ?_
  refine And.intro (fun _ => hX.2 _ _ [] _ _ _ mW0 hT) (fun c => ?_)
  exact And.intro (fun d => absurd ⟨v_ge c (by decide), Int.le_of_lt_add_one (v_ltp d (by decide))⟩ hn) (fun _ => hX.2 _ _ [] _ _ _ mW0 hT)
theorem rdX8_run {f : mFn} {g : mGn} {x1 : Int32} (hn : ¬ rg 1 5000 x1) : mTh shC fdX8_run clX8_run bsX8_run 12 2 [.inr 0, .inl x1] f g := by
  refine ⟨rfl, fun X hX hT => ?_⟩
  refine hX.1 0 _ rfl _ _ _ _ ?_
  refine And.intro (fun _ => hX.2 _ _ [] _ _ _ mW0 hT) (fun c => ?_)
  exact And.intro (fun d => absurd ⟨v_ge c (by decide), v_lep d (by decide)⟩ hn) (fun _ => hX.2 _ _ [] _ _ _ mW0 hT)
theorem rdX8_pass {f : mFn} {g : mGn} {x1 : Int32} (hn : ¬ rg 1 200000 x1) : mTh shC fdX8_pass clX8_pass bsX8_pass 11 2 [.inr 0, .inl x1] f g := by
  refine ⟨rfl, fun X hX hT => ?_⟩
  refine hX.1 0 _ rfl _ _ _ _ ?_
  refine And.intro (fun _ => hX.2 _ _ [] _ _ _ mW0 hT) (fun c => ?_)
  exact And.intro (fun d => absurd ⟨v_ge c (by decide), v_lep d (by decide)⟩ hn) (fun _ => hX.2 _ _ [] _ _ _ mW0 hT)
theorem rdX8_got {f : mFn} {g : mGn} {x1 : Int32} (hn : ¬ (¬ x1 < 0 ∧ ¬ f 325 ≤ x1 ∧ ¬ 1000 ≤ x1)) : mTh shC fdX8_got clX8_got bsX8_got 37 2 [.inr 0, .inl x1] f g := by
  refine ⟨rfl, fun X hX hT => ?_⟩
  have b31 : X 31 [] [] f g := by
    refine hX.1 1 _ rfl _ _ _ _ ?_
    refine hX.1 2 _ rfl _ _ _ _ ?_
    exact And.intro (fun c => absurd rfl c) (fun _ => hX.2 _ _ [] _ _ _ mW0 hT)
  refine hX.1 0 _ rfl _ _ _ _ ?_
  refine And.intro (fun _ => hX.2 _ _ [] _ _ _ mW0 b31) (fun c => ?_)
  refine And.intro (fun _ => hX.2 _ _ [] _ _ _ mW0 b31) (fun d => ?_)
  refine And.intro (fun _ => hX.2 _ _ [] _ _ _ mW0 b31) (fun e => ?_)
  exact absurd ⟨c, d, e⟩ hn
theorem mTab_e {x : Int32} {k : Nat → Prop} : ∀ (tg : List (Nat × Int32)) (hne : tg ≠ []), (∀ q ∈ tg.dropLast, ¬ x = q.2) → k (tg.getLast hne).1 → mTab x k tg
  | [], hne, _, _ => absurd rfl hne
  | [q], _, _, h => h
  | q :: q' :: r, _, hx, h => ⟨fun e => absurd e (hx q List.mem_cons_self), fun _ => mTab_e (q' :: r) (by simp) (fun z hz => hx z (List.mem_cons_of_mem _ hz)) (by simpa using h)⟩
theorem rdX8_about {f : mFn} {g : mGn} {x1 : Int32} (hn : ¬ rg 0 21 x1) : mTh shC fdX8_about clX8_about bsX8_about 320 2 [.inr 0, .inl x1] f g := by
  refine ⟨rfl, fun X hX hT => ?_⟩
  refine hX.1 0 _ rfl _ _ _ _ ?_
  refine mTab_e _ (List.cons_ne_nil _ _) (fun q hq e => ?_) (hX.2 _ _ [] _ _ _ mW0 hT)
  refine hn ?_
  rw [e]
  exact (show ∀ q ∈ ([(104, 0), (112, 1), (120, 2), (136, 3), (141, 4), (146, 5), (151, 6), (156, 7), (167, 8), (181, 9), (192, 10), (203, 11), (214, 12), (225, 13), (236, 14), (247, 15), (258, 16), (269, 17), (280, 18), (288, 19), (299, 20), (312, 21)] : List (Nat × Int32)), 0 ≤ q.2.toInt ∧ q.2.toInt ≤ 21 from by decide) q hq
