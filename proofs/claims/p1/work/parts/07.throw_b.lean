/-! the refusing methods of the class: contracts of a throw -/
def tA : List Jvm.Cond := (vx_atS RX8 41 "java/lang/IllegalArgumentException" ["java/lang/RuntimeException", "java/lang/Exception"]).filter goodWord
def tB : List Jvm.Cond := (atN RX8 65 "java/util/NoSuchElementException" "java/lang/RuntimeException" 13 prog_28_method_4_code ["java/lang/Exception"]).filter goodWord
def tC : List Jvm.Cond := (vx_atS RX8 78 "java/lang/IndexOutOfBoundsException" ["java/lang/RuntimeException", "java/lang/Exception"]).filter goodWord
def tW0 : List Jvm.Cond := [.classLink RX8 37 "java/lang/IllegalArgumentException", .initialized "java/lang/IllegalArgumentException", .classLink RX8 61 "java/util/NoSuchElementException", .initialized "java/util/NoSuchElementException", .classLink RX8 74 "java/lang/IndexOutOfBoundsException", .initialized "java/lang/IndexOutOfBoundsException"]
def wT : List Jvm.Cond := tW0 ++ (tA ++ (tB ++ (tC ++ wC)))
theorem wT_C {w : Jvm.Cond} (h : w ∈ wC) : w ∈ wT := List.mem_append_right _ (List.mem_append_right _ (List.mem_append_right _ (List.mem_append_right _ h)))
theorem wT_0 {w : Jvm.Cond} (h : w ∈ tW0) : w ∈ wT := List.mem_append_left _ h
theorem wT_tA : ∀ w ∈ tA, w ∈ wT := fun _ h => List.mem_append_right _ (List.mem_append_left _ h)
theorem wT_tB : ∀ w ∈ tB, w ∈ wT := fun _ h => List.mem_append_right _ (List.mem_append_right _ (List.mem_append_left _ h))
theorem wT_tC : ∀ w ∈ tC, w ∈ wT := fun _ h => List.mem_append_right _ (List.mem_append_right _ (List.mem_append_right _ (List.mem_append_left _ h)))
theorem wT_sub {c0 w : Jvm.Cond} (h : w ∈ c0 :: wC) : w ∈ c0 :: wT := by
  rcases List.mem_cons.mp h with rfl | h
  · exact List.mem_cons_self
  · exact List.mem_cons_of_mem _ (wT_C h)
theorem mFo_mono {cl : List vw_C} {Ts Ts' : List Jvm.Cond} {own : String} {q : Nat × Nat × Nat × Nat} (hs : ∀ w, w ∈ Ts → w ∈ Ts') (h : mFo cl Ts own q) : mFo cl Ts' own q := by
  obtain ⟨C, T, N, h1, h2, h3, h4, h5⟩ := h
  exact ⟨C, T, N, h1, h2, fun w hw => hs w (h3 w hw), hs _ h4, h5⟩
theorem mCo_mono {l : Launch} {D : va_G} {cl : List vw_C} {ad : Nat → Nat} {tc : Nat → ClassId} {sh : mSh} {Ts Ts' : List Jvm.Cond} {own : String} {R R' : Room} {q : Nat × Nat × Nat × Nat × mSp} (hs : ∀ w, w ∈ Ts → w ∈ Ts') (h1 : R.frames ≤ R'.frames) (h2 : R.locals ≤ R'.locals) (h : mCo l D cl ad tc sh Ts own R q) : mCo l D cl ad tc sh Ts' own R' q := by
  rcases h with ⟨h0, C, T, N, y, cc, mx, ret, ws, ws', rm, a1, a2, a3, a4, a5, a6, a7, a8⟩ | ⟨h0, y, cc, mx, ret, ws, ws', rm, a2, a3, a4, a5, a6, a7, a8⟩
  · exact Or.inl ⟨h0, C, T, N, y, cc, mx, ret, ws, ws', rm, a1, fun w hw => ⟨hs w (a2 w hw).1, (a2 w hw).2⟩, a3, a4, a5, a6, ⟨Nat.le_trans a7.1 h1, Nat.le_trans a7.2 h2⟩, a8⟩
  · exact Or.inr ⟨h0, y, cc, mx, ret, ws, ws', rm, fun w hw => ⟨hs w (a2 w hw).1, (a2 w hw).2⟩, a3, a4, a5, a6, ⟨Nat.le_trans a7.1 h1, Nat.le_trans a7.2 h2⟩, a8⟩
-- FlashBoard.run: java/lang/IllegalArgumentException at 12
abbrev rtX8_run : Room := { frames := 7, cells := 1, slots := 6, locals := 158 }
abbrev wtX8_run : List Jvm.Cond := .code yX8_run cX8_run 4 (some .int) :: wT
set_option maxRecDepth 100000 in
set_option maxHeartbeats 4000000 in
theorem thX8_run (l : Launch) (hls : l.stackTraces = false) (D : va_G) (ad : Nat → Nat) (tc : Nat → ClassId) {sa : Nat} {av : List mV} {f : mFn} {g : mGn} {sz : Nat} (hsp : mTh shC fdX8_run clX8_run bsX8_run 12 2 av f g) :
    vx_Met l yX8_run wtX8_run rtX8_run (fun a U => mPc D vwCl ad tc shC av f g sz a U ∧ vTw RX8 39 sa "n is not 1 .. 5000" (vx_atS RX8 41 "java/lang/IllegalArgumentException" ["java/lang/RuntimeException", "java/lang/Exception"]) (va_A (mW ad tc shC f g) sz) a U) (fun _ _ _ _ => False) (vTx D vwCl ad tc shC "java/lang/IllegalArgumentException" f g sz) 1 6 (va_A (mW ad tc shC f g) sz) :=
  have hF : ∀ q ∈ fdX8_run, mFo vwCl wkX8_run RX8 q :=
    (List.forall_mem_cons.mpr ⟨⟨RX8, TX8, 7, rfl, by decide, fun w h => mIn (inC_X8 w h), mIn (mAt (i := 473) (by decide +kernel)), fun _ => ⟨tyX8, tyX8_ok, nmX8, rfl, by decide +kernel⟩⟩, fun _ h => absurd h List.not_mem_nil⟩)
  have hK : ∀ q ∈ ([] : List (Nat × Int32)), Jvm.Cond.constant RX8 q.1 q.2 ∈ wkX8_run :=
    (fun _ h => absurd h List.not_mem_nil)
  have hC : ∀ q ∈ clX8_run, mCo l D vwCl ad tc shC wkX8_run RX8 rmX8_run q :=
    (List.forall_mem_cons.mpr ⟨Or.inl ⟨rfl, RX8, TX8, 7, yX8_oneStep, cX8_oneStep, 3, (some .int), wkX8_oneStep, _, rmX8_oneStep, rfl, mGoodV goodC (mAt (i := 535) (by decide +kernel)) (mAt (i := 536) (by decide +kernel)) (mAt (i := 537) (by decide +kernel)) (mAt (i := 484) (by decide +kernel)) (mAt (i := 521) (by decide +kernel)), rfl, rfl, rfl, by decide +kernel, by decide, metX8_oneStep l D ad tc⟩, fun _ h => absurd h List.not_mem_nil⟩)
  vThr_of (own := RX8) (ik := 37) (ret := (some .int)) (Fd := fdX8_run) (Cl := clX8_run) (Ks := []) (Fi := [(25, 0)]) (Ci := [(33, 0)]) (bs := bsX8_run) rfl (by decide +kernel) rfl (by decide +kernel)
    (fun q hq => mFo_mono (fun _ => wT_sub) (hF q hq)) (fun q hq => wT_sub (hK q hq)) (fun q hq => mCo_mono (fun _ => wT_sub) (by decide) (by decide) (hC q hq)) rfl rfl (by decide +kernel) (by decide)
    hls (by decide +kernel) (by decide +kernel) (mIn (wT_0 (by decide +kernel))) (mIn (wT_0 (by decide +kernel))) (fun w h => mIn (wT_tA w h)) (by decide +kernel)
    (by decide +kernel) (by decide +kernel) (by decide +kernel) (by decide +kernel) (by decide +kernel) (by decide) (by decide) rfl rfl hsp
-- FlashBoard.pass: java/lang/IllegalArgumentException at 11
abbrev rtX8_pass : Room := { frames := 7, cells := 1, slots := 6, locals := 158 }
abbrev wtX8_pass : List Jvm.Cond := .code yX8_pass cX8_pass 4 (some .int) :: wT
set_option maxRecDepth 100000 in
set_option maxHeartbeats 4000000 in
theorem thX8_pass (l : Launch) (hls : l.stackTraces = false) (D : va_G) (ad : Nat → Nat) (tc : Nat → ClassId) {sa : Nat} {av : List mV} {f : mFn} {g : mGn} {sz : Nat} (hsp : mTh shC fdX8_pass clX8_pass bsX8_pass 11 2 av f g) :
    vx_Met l yX8_pass wtX8_pass rtX8_pass (fun a U => mPc D vwCl ad tc shC av f g sz a U ∧ vTw RX8 45 sa "n is not 1 .. 200000" (vx_atS RX8 41 "java/lang/IllegalArgumentException" ["java/lang/RuntimeException", "java/lang/Exception"]) (va_A (mW ad tc shC f g) sz) a U) (fun _ _ _ _ => False) (vTx D vwCl ad tc shC "java/lang/IllegalArgumentException" f g sz) 1 6 (va_A (mW ad tc shC f g) sz) :=
  have hF : ∀ q ∈ fdX8_pass, mFo vwCl wkX8_pass RX8 q :=
    (List.forall_mem_cons.mpr ⟨⟨RX8, TX8, 7, rfl, by decide, fun w h => mIn (inC_X8 w h), mIn (mAt (i := 473) (by decide +kernel)), fun _ => ⟨tyX8, tyX8_ok, nmX8, rfl, by decide +kernel⟩⟩, fun _ h => absurd h List.not_mem_nil⟩)
  have hK : ∀ q ∈ ([(44, 200000)] : List (Nat × Int32)), Jvm.Cond.constant RX8 q.1 q.2 ∈ wkX8_pass :=
    (List.forall_mem_cons.mpr ⟨mIn (mAt (i := 534) (by decide +kernel)), fun _ h => absurd h List.not_mem_nil⟩)
  have hC : ∀ q ∈ clX8_pass, mCo l D vwCl ad tc shC wkX8_pass RX8 rmX8_pass q :=
    (List.forall_mem_cons.mpr ⟨Or.inl ⟨rfl, RX8, TX8, 7, yX8_oneStep, cX8_oneStep, 3, (some .int), wkX8_oneStep, _, rmX8_oneStep, rfl, mGoodV goodC (mAt (i := 535) (by decide +kernel)) (mAt (i := 536) (by decide +kernel)) (mAt (i := 537) (by decide +kernel)) (mAt (i := 484) (by decide +kernel)) (mAt (i := 521) (by decide +kernel)), rfl, rfl, rfl, by decide +kernel, by decide, metX8_oneStep l D ad tc⟩, fun _ h => absurd h List.not_mem_nil⟩)
  vThr_of (own := RX8) (ik := 37) (ret := (some .int)) (Fd := fdX8_pass) (Cl := clX8_pass) (Ks := [(44, 200000)]) (Fi := [(25, 0)]) (Ci := [(33, 0)]) (bs := bsX8_pass) rfl (by decide +kernel) rfl (by decide +kernel)
    (fun q hq => mFo_mono (fun _ => wT_sub) (hF q hq)) (fun q hq => wT_sub (hK q hq)) (fun q hq => mCo_mono (fun _ => wT_sub) (by decide) (by decide) (hC q hq)) rfl rfl (by decide +kernel) (by decide)
    hls (by decide +kernel) (by decide +kernel) (mIn (wT_0 (by decide +kernel))) (mIn (wT_0 (by decide +kernel))) (fun w h => mIn (wT_tA w h)) (by decide +kernel)
    (by decide +kernel) (by decide +kernel) (by decide +kernel) (by decide +kernel) (by decide +kernel) (by decide) (by decide) rfl rfl hsp
-- FlashBoard.got: java/util/NoSuchElementException at 37
abbrev rtX8_got : Room := { frames := 6, cells := 1, slots := 6, locals := 82 }
abbrev wtX8_got : List Jvm.Cond := .code yX8_got cX8_got 4 (some .int) :: wT
set_option maxRecDepth 100000 in
set_option maxHeartbeats 4000000 in
theorem thX8_got (l : Launch) (hls : l.stackTraces = false) (D : va_G) (ad : Nat → Nat) (tc : Nat → ClassId) {sa : Nat} {av : List mV} {f : mFn} {g : mGn} {sz : Nat} (hsp : mTh shC fdX8_got clX8_got bsX8_got 37 2 av f g) :
    vx_Met l yX8_got wtX8_got rtX8_got (fun a U => mPc D vwCl ad tc shC av f g sz a U ∧ vTw RX8 63 sa "no such byte is kept" (atN RX8 65 "java/util/NoSuchElementException" "java/lang/RuntimeException" 13 prog_28_method_4_code ["java/lang/Exception"]) (va_A (mW ad tc shC f g) sz) a U) (fun _ _ _ _ => False) (vTx D vwCl ad tc shC "java/util/NoSuchElementException" f g sz) 1 6 (va_A (mW ad tc shC f g) sz) :=
  have hF : ∀ q ∈ fdX8_got, mFo vwCl wkX8_got RX8 q :=
    (List.forall_mem_cons.mpr ⟨⟨RX8, TX8, 7, rfl, by decide, fun w h => mIn (inC_X8 w h), mIn (mAt (i := 449) (by decide +kernel)), fun h => absurd h (by decide)⟩, List.forall_mem_cons.mpr ⟨⟨RX5, TX5, 9, rfl, by decide, fun w h => mIn (inC_X5 w h), mIn (mAt (i := 462) (by decide +kernel)), fun h => absurd h (by decide)⟩, List.forall_mem_cons.mpr ⟨⟨RX4, TX4, 15, rfl, by decide, fun w h => mIn (inC_X4 w h), mIn (mAt (i := 501) (by decide +kernel)), fun _ => ⟨tyX4, tyX4_ok, nmX4, rfl, by decide +kernel⟩⟩, List.forall_mem_cons.mpr ⟨⟨RX4, TX4, 15, rfl, by decide, fun w h => mIn (inC_X4 w h), mIn (mAt (i := 502) (by decide +kernel)), fun h => absurd h (by decide)⟩, fun _ h => absurd h List.not_mem_nil⟩⟩⟩⟩)
  have hK : ∀ q ∈ ([] : List (Nat × Int32)), Jvm.Cond.constant RX8 q.1 q.2 ∈ wkX8_got :=
    (fun _ h => absurd h List.not_mem_nil)
  have hC : ∀ q ∈ clX8_got, mCo l D vwCl ad tc shC wkX8_got RX8 rmX8_got q :=
    (fun _ h => absurd h List.not_mem_nil)
  vThr_ofN (own := RX8) (Y0 := "java/lang/RuntimeException") (ni := 13) (nb := prog_28_method_4_code) (ik := 61) (ret := (some .int)) (Fd := fdX8_got) (Cl := clX8_got) (Ks := []) (Fi := [(10, 0), (47, 0), (57, 0), (66, 0)]) (Ci := []) (bs := bsX8_got) rfl (by decide +kernel) rfl (by decide +kernel)
    (fun q hq => mFo_mono (fun _ => wT_sub) (hF q hq)) (fun q hq => wT_sub (hK q hq)) (fun q hq => mCo_mono (fun _ => wT_sub) (by decide) (by decide) (hC q hq)) rfl rfl (by decide +kernel) (by decide)
    hls (by decide +kernel) (by decide +kernel) (by decide +kernel) (by decide +kernel) (by decide +kernel) (by decide +kernel) (by decide +kernel) (by decide +kernel) (by decide +kernel) (mIn (wT_0 (by decide +kernel))) (mIn (wT_0 (by decide +kernel))) (fun w h => mIn (wT_tB w h)) (by decide +kernel)
    (by decide +kernel) (by decide +kernel) (by decide +kernel) (by decide +kernel) (by decide +kernel) (by decide) (by decide) rfl rfl hsp
-- FlashBoard.burn: java/lang/IndexOutOfBoundsException at 7
abbrev rtX8_burn : Room := { frames := 6, cells := 1, slots := 6, locals := 82 }
abbrev wtX8_burn : List Jvm.Cond := .code yX8_burn cX8_burn 8 (some .int) :: wT
set_option maxRecDepth 100000 in
set_option maxHeartbeats 4000000 in
theorem thX8_burn (l : Launch) (hls : l.stackTraces = false) (D : va_G) (ad : Nat → Nat) (tc : Nat → ClassId) {sa : Nat} {av : List mV} {f : mFn} {g : mGn} {sz : Nat} (hsp : mTh shC fdX8_burn clX8_burn bsX8_burn 7 7 av f g) :
    vx_Met l yX8_burn wtX8_burn rtX8_burn (fun a U => mPc D vwCl ad tc shC av f g sz a U ∧ vTw RX8 76 sa "no address of FLASH" (vx_atS RX8 78 "java/lang/IndexOutOfBoundsException" ["java/lang/RuntimeException", "java/lang/Exception"]) (va_A (mW ad tc shC f g) sz) a U) (fun _ _ _ _ => False) (vTx D vwCl ad tc shC "java/lang/IndexOutOfBoundsException" f g sz) 1 6 (va_A (mW ad tc shC f g) sz) :=
  have hF : ∀ q ∈ fdX8_burn, mFo vwCl wkX8_burn RX8 q :=
    (List.forall_mem_cons.mpr ⟨⟨RX8, TX8, 7, rfl, by decide, fun w h => mIn (inC_X8 w h), mIn (mAt (i := 449) (by decide +kernel)), fun h => absurd h (by decide)⟩, List.forall_mem_cons.mpr ⟨⟨RX5, TX5, 9, rfl, by decide, fun w h => mIn (inC_X5 w h), mIn (mAt (i := 455) (by decide +kernel)), fun h => absurd h (by decide)⟩, fun _ h => absurd h List.not_mem_nil⟩⟩)
  have hK : ∀ q ∈ ([] : List (Nat × Int32)), Jvm.Cond.constant RX8 q.1 q.2 ∈ wkX8_burn :=
    (fun _ h => absurd h List.not_mem_nil)
  have hC : ∀ q ∈ clX8_burn, mCo l D vwCl ad tc shC wkX8_burn RX8 rmX8_burn q :=
    (List.forall_mem_cons.mpr ⟨Or.inr ⟨rfl, yX8_inFlash, cX8_inFlash, 1, (some .boolean), wkX8_inFlash, _, rmX8_inFlash, mGoodS goodC (mAt (i := 483) (by decide +kernel)) (mAt (i := 485) (by decide +kernel)) (mAt (i := 484) (by decide +kernel)) (mAt (i := 481) (by decide +kernel)), rfl, rfl, rfl, by decide +kernel, by decide, metX8_inFlash l D ad tc⟩, List.forall_mem_cons.mpr ⟨Or.inl ⟨rfl, RX3, TX3, 8, yX3_burnPair, cX3_burnPair, 4, (some .int), wkX3_burnPair, _, rmX3_burnPair, rfl, mGoodV goodC (mAt (i := 486) (by decide +kernel)) (mAt (i := 487) (by decide +kernel)) (mAt (i := 488) (by decide +kernel)) (mAt (i := 81) (by decide +kernel)) (mAt (i := 361) (by decide +kernel)), rfl, rfl, rfl, by decide +kernel, by decide, metX3_burnPair l D ad tc⟩, fun _ h => absurd h List.not_mem_nil⟩⟩)
  vThr_of (own := RX8) (ik := 74) (ret := (some .int)) (Fd := fdX8_burn) (Cl := clX8_burn) (Ks := []) (Fi := [(10, 0), (79, 0)]) (Ci := [(70, 1), (83, 0)]) (bs := bsX8_burn) rfl (by decide +kernel) rfl (by decide +kernel)
    (fun q hq => mFo_mono (fun _ => wT_sub) (hF q hq)) (fun q hq => wT_sub (hK q hq)) (fun q hq => mCo_mono (fun _ => wT_sub) (by decide) (by decide) (hC q hq)) rfl rfl (by decide +kernel) (by decide)
    hls (by decide +kernel) (by decide +kernel) (mIn (wT_0 (by decide +kernel))) (mIn (wT_0 (by decide +kernel))) (fun w h => mIn (wT_tC w h)) (by decide +kernel)
    (by decide +kernel) (by decide +kernel) (by decide +kernel) (by decide +kernel) (by decide +kernel) (by decide) (by decide) rfl rfl hsp
-- FlashBoard.word: java/lang/IndexOutOfBoundsException at 7
abbrev rtX8_word : Room := { frames := 6, cells := 1, slots := 6, locals := 82 }
abbrev wtX8_word : List Jvm.Cond := .code yX8_word cX8_word 2 (some .int) :: wT
set_option maxRecDepth 100000 in
set_option maxHeartbeats 4000000 in
theorem thX8_word (l : Launch) (hls : l.stackTraces = false) (D : va_G) (ad : Nat → Nat) (tc : Nat → ClassId) {sa : Nat} {av : List mV} {f : mFn} {g : mGn} {sz : Nat} (hsp : mTh shC fdX8_word clX8_word bsX8_word 7 2 av f g) :
    vx_Met l yX8_word wtX8_word rtX8_word (fun a U => mPc D vwCl ad tc shC av f g sz a U ∧ vTw RX8 76 sa "no address of FLASH" (vx_atS RX8 78 "java/lang/IndexOutOfBoundsException" ["java/lang/RuntimeException", "java/lang/Exception"]) (va_A (mW ad tc shC f g) sz) a U) (fun _ _ _ _ => False) (vTx D vwCl ad tc shC "java/lang/IndexOutOfBoundsException" f g sz) 1 6 (va_A (mW ad tc shC f g) sz) :=
  have hF : ∀ q ∈ fdX8_word, mFo vwCl wkX8_word RX8 q :=
    (List.forall_mem_cons.mpr ⟨⟨RX8, TX8, 7, rfl, by decide, fun w h => mIn (inC_X8 w h), mIn (mAt (i := 449) (by decide +kernel)), fun h => absurd h (by decide)⟩, List.forall_mem_cons.mpr ⟨⟨RX5, TX5, 9, rfl, by decide, fun w h => mIn (inC_X5 w h), mIn (mAt (i := 455) (by decide +kernel)), fun h => absurd h (by decide)⟩, List.forall_mem_cons.mpr ⟨⟨RX3, TX3, 8, rfl, by decide, fun w h => mIn (inC_X3 w h), mIn (mAt (i := 551) (by decide +kernel)), fun h => absurd h (by decide)⟩, fun _ h => absurd h List.not_mem_nil⟩⟩⟩)
  have hK : ∀ q ∈ ([] : List (Nat × Int32)), Jvm.Cond.constant RX8 q.1 q.2 ∈ wkX8_word :=
    (fun _ h => absurd h List.not_mem_nil)
  have hC : ∀ q ∈ clX8_word, mCo l D vwCl ad tc shC wkX8_word RX8 rmX8_word q :=
    (List.forall_mem_cons.mpr ⟨Or.inr ⟨rfl, yX8_inFlash, cX8_inFlash, 1, (some .boolean), wkX8_inFlash, _, rmX8_inFlash, mGoodS goodC (mAt (i := 483) (by decide +kernel)) (mAt (i := 485) (by decide +kernel)) (mAt (i := 484) (by decide +kernel)) (mAt (i := 481) (by decide +kernel)), rfl, rfl, rfl, by decide +kernel, by decide, metX8_inFlash l D ad tc⟩, fun _ h => absurd h List.not_mem_nil⟩)
  vThr_of (own := RX8) (ik := 74) (ret := (some .int)) (Fd := fdX8_word) (Cl := clX8_word) (Ks := []) (Fi := [(10, 0), (79, 0), (89, 0)]) (Ci := [(70, 1)]) (bs := bsX8_word) rfl (by decide +kernel) rfl (by decide +kernel)
    (fun q hq => mFo_mono (fun _ => wT_sub) (hF q hq)) (fun q hq => wT_sub (hK q hq)) (fun q hq => mCo_mono (fun _ => wT_sub) (by decide) (by decide) (hC q hq)) rfl rfl (by decide +kernel) (by decide)
    hls (by decide +kernel) (by decide +kernel) (mIn (wT_0 (by decide +kernel))) (mIn (wT_0 (by decide +kernel))) (fun w h => mIn (wT_tC w h)) (by decide +kernel)
    (by decide +kernel) (by decide +kernel) (by decide +kernel) (by decide +kernel) (by decide +kernel) (by decide) (by decide) rfl rfl hsp
-- FlashBoard.data: java/lang/IndexOutOfBoundsException at 11
abbrev rtX8_data : Room := { frames := 6, cells := 1, slots := 6, locals := 82 }
abbrev wtX8_data : List Jvm.Cond := .code yX8_data cX8_data 2 (some .int) :: wT
set_option maxRecDepth 100000 in
set_option maxHeartbeats 4000000 in
theorem thX8_data (l : Launch) (hls : l.stackTraces = false) (D : va_G) (ad : Nat → Nat) (tc : Nat → ClassId) {sa : Nat} {av : List mV} {f : mFn} {g : mGn} {sz : Nat} (hsp : mTh shC fdX8_data clX8_data bsX8_data 11 2 av f g) :
    vx_Met l yX8_data wtX8_data rtX8_data (fun a U => mPc D vwCl ad tc shC av f g sz a U ∧ vTw RX8 92 sa "no address of DATA" (vx_atS RX8 78 "java/lang/IndexOutOfBoundsException" ["java/lang/RuntimeException", "java/lang/Exception"]) (va_A (mW ad tc shC f g) sz) a U) (fun _ _ _ _ => False) (vTx D vwCl ad tc shC "java/lang/IndexOutOfBoundsException" f g sz) 1 6 (va_A (mW ad tc shC f g) sz) :=
  have hF : ∀ q ∈ fdX8_data, mFo vwCl wkX8_data RX8 q :=
    (List.forall_mem_cons.mpr ⟨⟨RX8, TX8, 7, rfl, by decide, fun w h => mIn (inC_X8 w h), mIn (mAt (i := 449) (by decide +kernel)), fun h => absurd h (by decide)⟩, List.forall_mem_cons.mpr ⟨⟨RX5, TX5, 9, rfl, by decide, fun w h => mIn (inC_X5 w h), mIn (mAt (i := 462) (by decide +kernel)), fun h => absurd h (by decide)⟩, fun _ h => absurd h List.not_mem_nil⟩⟩)
  have hK : ∀ q ∈ ([] : List (Nat × Int32)), Jvm.Cond.constant RX8 q.1 q.2 ∈ wkX8_data :=
    (fun _ h => absurd h List.not_mem_nil)
  have hC : ∀ q ∈ clX8_data, mCo l D vwCl ad tc shC wkX8_data RX8 rmX8_data q :=
    (List.forall_mem_cons.mpr ⟨Or.inl ⟨rfl, RX4, TX4, 15, yX4_firstReceived, cX4_firstReceived, 1, (some .int), wkX4_firstReceived, _, rmX4_firstReceived, rfl, mGoodV goodC (mAt (i := 491) (by decide +kernel)) (mAt (i := 492) (by decide +kernel)) (mAt (i := 493) (by decide +kernel)) (mAt (i := 89) (by decide +kernel)) (mAt (i := 387) (by decide +kernel)), rfl, rfl, rfl, by decide +kernel, by decide, metX4_firstReceived l D ad tc⟩, List.forall_mem_cons.mpr ⟨Or.inl ⟨rfl, RX5, TX5, 9, yX5_load, cX5_load, 3, (some .int), wkX5_load, _, rmX5_load, rfl, mGoodV goodC (mAt (i := 494) (by decide +kernel)) (mAt (i := 120) (by decide +kernel)) (mAt (i := 121) (by decide +kernel)) (mAt (i := 77) (by decide +kernel)) (mAt (i := 102) (by decide +kernel)), rfl, rfl, rfl, by decide +kernel, by decide, metX5_load l D ad tc⟩, fun _ h => absurd h List.not_mem_nil⟩⟩)
  vThr_of (own := RX8) (ik := 74) (ret := (some .int)) (Fd := fdX8_data) (Cl := clX8_data) (Ks := []) (Fi := [(10, 0), (47, 0)]) (Ci := [(94, 0), (97, 0)]) (bs := bsX8_data) rfl (by decide +kernel) rfl (by decide +kernel)
    (fun q hq => mFo_mono (fun _ => wT_sub) (hF q hq)) (fun q hq => wT_sub (hK q hq)) (fun q hq => mCo_mono (fun _ => wT_sub) (by decide) (by decide) (hC q hq)) rfl rfl (by decide +kernel) (by decide)
    hls (by decide +kernel) (by decide +kernel) (mIn (wT_0 (by decide +kernel))) (mIn (wT_0 (by decide +kernel))) (fun w h => mIn (wT_tC w h)) (by decide +kernel)
    (by decide +kernel) (by decide +kernel) (by decide +kernel) (by decide +kernel) (by decide +kernel) (by decide) (by decide) rfl rfl hsp
-- FlashBoard.put: java/lang/IndexOutOfBoundsException at 7
abbrev rtX8_put : Room := { frames := 6, cells := 1, slots := 6, locals := 82 }
abbrev wtX8_put : List Jvm.Cond := .code yX8_put cX8_put 3 none :: wT
set_option maxRecDepth 100000 in
set_option maxHeartbeats 4000000 in
theorem thX8_put (l : Launch) (hls : l.stackTraces = false) (D : va_G) (ad : Nat → Nat) (tc : Nat → ClassId) {sa : Nat} {av : List mV} {f : mFn} {g : mGn} {sz : Nat} (hsp : mTh shC fdX8_put clX8_put bsX8_put 7 3 av f g) :
    vx_Met l yX8_put wtX8_put rtX8_put (fun a U => mPc D vwCl ad tc shC av f g sz a U ∧ vTw RX8 103 sa "no register, SP, SREG or RAM" (vx_atS RX8 78 "java/lang/IndexOutOfBoundsException" ["java/lang/RuntimeException", "java/lang/Exception"]) (va_A (mW ad tc shC f g) sz) a U) (fun _ _ _ _ => False) (vTx D vwCl ad tc shC "java/lang/IndexOutOfBoundsException" f g sz) 1 6 (va_A (mW ad tc shC f g) sz) :=
  have hF : ∀ q ∈ fdX8_put, mFo vwCl wkX8_put RX8 q :=
    (List.forall_mem_cons.mpr ⟨⟨RX8, TX8, 7, rfl, by decide, fun w h => mIn (inC_X8 w h), mIn (mAt (i := 449) (by decide +kernel)), fun h => absurd h (by decide)⟩, List.forall_mem_cons.mpr ⟨⟨RX5, TX5, 9, rfl, by decide, fun w h => mIn (inC_X5 w h), mIn (mAt (i := 542) (by decide +kernel)), fun h => absurd h (by decide)⟩, fun _ h => absurd h List.not_mem_nil⟩⟩)
  have hK : ∀ q ∈ ([] : List (Nat × Int32)), Jvm.Cond.constant RX8 q.1 q.2 ∈ wkX8_put :=
    (fun _ h => absurd h List.not_mem_nil)
  have hC : ∀ q ∈ clX8_put, mCo l D vwCl ad tc shC wkX8_put RX8 rmX8_put q :=
    (List.forall_mem_cons.mpr ⟨Or.inr ⟨rfl, yX8_canBePut, cX8_canBePut, 1, (some .boolean), wkX8_canBePut, _, rmX8_canBePut, mGoodS goodC (mAt (i := 543) (by decide +kernel)) (mAt (i := 544) (by decide +kernel)) (mAt (i := 484) (by decide +kernel)) (mAt (i := 489) (by decide +kernel)), rfl, rfl, rfl, by decide +kernel, by decide, metX8_canBePut l D ad tc⟩, fun _ h => absurd h List.not_mem_nil⟩)
  vThr_of (own := RX8) (ik := 74) (ret := none) (Fd := fdX8_put) (Cl := clX8_put) (Ks := []) (Fi := [(10, 0), (105, 0)]) (Ci := [(100, 1)]) (bs := bsX8_put) rfl (by decide +kernel) rfl (by decide +kernel)
    (fun q hq => mFo_mono (fun _ => wT_sub) (hF q hq)) (fun q hq => wT_sub (hK q hq)) (fun q hq => mCo_mono (fun _ => wT_sub) (by decide) (by decide) (hC q hq)) rfl rfl (by decide +kernel) (by decide)
    hls (by decide +kernel) (by decide +kernel) (mIn (wT_0 (by decide +kernel))) (mIn (wT_0 (by decide +kernel))) (fun w h => mIn (wT_tC w h)) (by decide +kernel)
    (by decide +kernel) (by decide +kernel) (by decide +kernel) (by decide +kernel) (by decide +kernel) (by decide) (by decide) rfl rfl hsp
-- FlashBoard.eeprom: java/lang/IndexOutOfBoundsException at 19
abbrev rtX8_eeprom : Room := { frames := 6, cells := 1, slots := 6, locals := 82 }
abbrev wtX8_eeprom : List Jvm.Cond := .code yX8_eeprom cX8_eeprom 2 (some .int) :: wT
set_option maxRecDepth 100000 in
set_option maxHeartbeats 4000000 in
theorem thX8_eeprom (l : Launch) (hls : l.stackTraces = false) (D : va_G) (ad : Nat → Nat) (tc : Nat → ClassId) {sa : Nat} {av : List mV} {f : mFn} {g : mGn} {sz : Nat} (hsp : mTh shC fdX8_eeprom clX8_eeprom bsX8_eeprom 19 2 av f g) :
    vx_Met l yX8_eeprom wtX8_eeprom rtX8_eeprom (fun a U => mPc D vwCl ad tc shC av f g sz a U ∧ vTw RX8 117 sa "no address of the EEPROM" (vx_atS RX8 78 "java/lang/IndexOutOfBoundsException" ["java/lang/RuntimeException", "java/lang/Exception"]) (va_A (mW ad tc shC f g) sz) a U) (fun _ _ _ _ => False) (vTx D vwCl ad tc shC "java/lang/IndexOutOfBoundsException" f g sz) 1 6 (va_A (mW ad tc shC f g) sz) :=
  have hF : ∀ q ∈ fdX8_eeprom, mFo vwCl wkX8_eeprom RX8 q :=
    (List.forall_mem_cons.mpr ⟨⟨RX8, TX8, 7, rfl, by decide, fun w h => mIn (inC_X8 w h), mIn (mAt (i := 449) (by decide +kernel)), fun h => absurd h (by decide)⟩, List.forall_mem_cons.mpr ⟨⟨RX5, TX5, 9, rfl, by decide, fun w h => mIn (inC_X5 w h), mIn (mAt (i := 467) (by decide +kernel)), fun h => absurd h (by decide)⟩, List.forall_mem_cons.mpr ⟨⟨RX2, TX2, 4, rfl, by decide, fun w h => mIn (inC_X2 w h), mIn (mAt (i := 496) (by decide +kernel)), fun h => absurd h (by decide)⟩, fun _ h => absurd h List.not_mem_nil⟩⟩⟩)
  have hK : ∀ q ∈ ([] : List (Nat × Int32)), Jvm.Cond.constant RX8 q.1 q.2 ∈ wkX8_eeprom :=
    (fun _ h => absurd h List.not_mem_nil)
  have hC : ∀ q ∈ clX8_eeprom, mCo l D vwCl ad tc shC wkX8_eeprom RX8 rmX8_eeprom q :=
    (fun _ h => absurd h List.not_mem_nil)
  vThr_of (own := RX8) (ik := 74) (ret := (some .int)) (Fd := fdX8_eeprom) (Cl := clX8_eeprom) (Ks := []) (Fi := [(10, 0), (108, 0), (112, 0)]) (Ci := []) (bs := bsX8_eeprom) rfl (by decide +kernel) rfl (by decide +kernel)
    (fun q hq => mFo_mono (fun _ => wT_sub) (hF q hq)) (fun q hq => wT_sub (hK q hq)) (fun q hq => mCo_mono (fun _ => wT_sub) (by decide) (by decide) (hC q hq)) rfl rfl (by decide +kernel) (by decide)
    hls (by decide +kernel) (by decide +kernel) (mIn (wT_0 (by decide +kernel))) (mIn (wT_0 (by decide +kernel))) (fun w h => mIn (wT_tC w h)) (by decide +kernel)
    (by decide +kernel) (by decide +kernel) (by decide +kernel) (by decide +kernel) (by decide +kernel) (by decide) (by decide) rfl rfl hsp
-- FlashBoard.start: java/lang/IndexOutOfBoundsException at 7
abbrev rtX8_start : Room := { frames := 6, cells := 1, slots := 6, locals := 82 }
abbrev wtX8_start : List Jvm.Cond := .code yX8_start cX8_start 2 none :: wT
set_option maxRecDepth 100000 in
set_option maxHeartbeats 4000000 in
theorem thX8_start (l : Launch) (hls : l.stackTraces = false) (D : va_G) (ad : Nat → Nat) (tc : Nat → ClassId) {sa : Nat} {av : List mV} {f : mFn} {g : mGn} {sz : Nat} (hsp : mTh shC fdX8_start clX8_start bsX8_start 7 2 av f g) :
    vx_Met l yX8_start wtX8_start rtX8_start (fun a U => mPc D vwCl ad tc shC av f g sz a U ∧ vTw RX8 76 sa "no address of FLASH" (vx_atS RX8 78 "java/lang/IndexOutOfBoundsException" ["java/lang/RuntimeException", "java/lang/Exception"]) (va_A (mW ad tc shC f g) sz) a U) (fun _ _ _ _ => False) (vTx D vwCl ad tc shC "java/lang/IndexOutOfBoundsException" f g sz) 1 6 (va_A (mW ad tc shC f g) sz) :=
  have hF : ∀ q ∈ fdX8_start, mFo vwCl wkX8_start RX8 q :=
    (List.forall_mem_cons.mpr ⟨⟨RX8, TX8, 7, rfl, by decide, fun w h => mIn (inC_X8 w h), mIn (mAt (i := 447) (by decide +kernel)), fun h => absurd h (by decide)⟩, fun _ h => absurd h List.not_mem_nil⟩)
  have hK : ∀ q ∈ ([] : List (Nat × Int32)), Jvm.Cond.constant RX8 q.1 q.2 ∈ wkX8_start :=
    (fun _ h => absurd h List.not_mem_nil)
  have hC : ∀ q ∈ clX8_start, mCo l D vwCl ad tc shC wkX8_start RX8 rmX8_start q :=
    (List.forall_mem_cons.mpr ⟨Or.inr ⟨rfl, yX8_inFlash, cX8_inFlash, 1, (some .boolean), wkX8_inFlash, _, rmX8_inFlash, mGoodS goodC (mAt (i := 483) (by decide +kernel)) (mAt (i := 485) (by decide +kernel)) (mAt (i := 484) (by decide +kernel)) (mAt (i := 481) (by decide +kernel)), rfl, rfl, rfl, by decide +kernel, by decide, metX8_inFlash l D ad tc⟩, List.forall_mem_cons.mpr ⟨Or.inl ⟨rfl, RX1, TX1, 8, yX1_goTo, cX1_goTo, 2, none, wkX1_goTo, _, rmX1_goTo, rfl, mGoodV goodC (mAt (i := 511) (by decide +kernel)) (mAt (i := 512) (by decide +kernel)) (mAt (i := 513) (by decide +kernel)) (mAt (i := 111) (by decide +kernel)) (mAt (i := 233) (by decide +kernel)), rfl, rfl, rfl, by decide +kernel, by decide, metX1_goTo l D ad tc⟩, fun _ h => absurd h List.not_mem_nil⟩⟩)
  vThr_of (own := RX8) (ik := 74) (ret := none) (Fd := fdX8_start) (Cl := clX8_start) (Ks := []) (Fi := [(21, 0)]) (Ci := [(70, 1), (128, 0)]) (bs := bsX8_start) rfl (by decide +kernel) rfl (by decide +kernel)
    (fun q hq => mFo_mono (fun _ => wT_sub) (hF q hq)) (fun q hq => wT_sub (hK q hq)) (fun q hq => mCo_mono (fun _ => wT_sub) (by decide) (by decide) (hC q hq)) rfl rfl (by decide +kernel) (by decide)
    hls (by decide +kernel) (by decide +kernel) (mIn (wT_0 (by decide +kernel))) (mIn (wT_0 (by decide +kernel))) (fun w h => mIn (wT_tC w h)) (by decide +kernel)
    (by decide +kernel) (by decide +kernel) (by decide +kernel) (by decide +kernel) (by decide +kernel) (by decide) (by decide) rfl rfl hsp
-- FlashBoard.about: java/util/NoSuchElementException at 320
abbrev rtX8_about : Room := { frames := 6, cells := 1, slots := 6, locals := 82 }
abbrev wtX8_about : List Jvm.Cond := .code yX8_about cX8_about 2 (some .int) :: wT
set_option maxRecDepth 100000 in
set_option maxHeartbeats 4000000 in
theorem thX8_about (l : Launch) (hls : l.stackTraces = false) (D : va_G) (ad : Nat → Nat) (tc : Nat → ClassId) {sa : Nat} {av : List mV} {f : mFn} {g : mGn} {sz : Nat} (hsp : mTh shC fdX8_about clX8_about bsX8_about 320 2 av f g) :
    vx_Met l yX8_about wtX8_about rtX8_about (fun a U => mPc D vwCl ad tc shC av f g sz a U ∧ vTw RX8 207 sa "nothing is told of that" (atN RX8 65 "java/util/NoSuchElementException" "java/lang/RuntimeException" 13 prog_28_method_4_code ["java/lang/Exception"]) (va_A (mW ad tc shC f g) sz) a U) (fun _ _ _ _ => False) (vTx D vwCl ad tc shC "java/util/NoSuchElementException" f g sz) 1 6 (va_A (mW ad tc shC f g) sz) :=
  have hF : ∀ q ∈ fdX8_about, mFo vwCl wkX8_about RX8 q :=
    (List.forall_mem_cons.mpr ⟨⟨RX8, TX8, 7, rfl, by decide, fun w h => mIn (inC_X8 w h), mIn (mAt (i := 447) (by decide +kernel)), fun h => absurd h (by decide)⟩, List.forall_mem_cons.mpr ⟨⟨RX1, TX1, 8, rfl, by decide, fun w h => mIn (inC_X1 w h), mIn (mAt (i := 448) (by decide +kernel)), fun _ => ⟨tyX1, tyX1_ok, nmX1, rfl, by decide +kernel⟩⟩, List.forall_mem_cons.mpr ⟨⟨RX8, TX8, 7, rfl, by decide, fun w h => mIn (inC_X8 w h), mIn (mAt (i := 449) (by decide +kernel)), fun h => absurd h (by decide)⟩, List.forall_mem_cons.mpr ⟨⟨RX1, TX1, 8, rfl, by decide, fun w h => mIn (inC_X1 w h), mIn (mAt (i := 450) (by decide +kernel)), fun _ => ⟨tyX1, tyX1_ok, nmX1, rfl, by decide +kernel⟩⟩, List.forall_mem_cons.mpr ⟨⟨RX8, TX8, 7, rfl, by decide, fun w h => mIn (inC_X8 w h), mIn (mAt (i := 451) (by decide +kernel)), fun _ => ⟨tyX8, tyX8_ok, nmX8, rfl, by decide +kernel⟩⟩, List.forall_mem_cons.mpr ⟨⟨RX8, TX8, 7, rfl, by decide, fun w h => mIn (inC_X8 w h), mIn (mAt (i := 452) (by decide +kernel)), fun _ => ⟨tyX8, tyX8_ok, nmX8, rfl, by decide +kernel⟩⟩, List.forall_mem_cons.mpr ⟨⟨RX8, TX8, 7, rfl, by decide, fun w h => mIn (inC_X8 w h), mIn (mAt (i := 453) (by decide +kernel)), fun _ => ⟨tyX8, tyX8_ok, nmX8, rfl, by decide +kernel⟩⟩, List.forall_mem_cons.mpr ⟨⟨RX8, TX8, 7, rfl, by decide, fun w h => mIn (inC_X8 w h), mIn (mAt (i := 454) (by decide +kernel)), fun _ => ⟨tyX8, tyX8_ok, nmX8, rfl, by decide +kernel⟩⟩, List.forall_mem_cons.mpr ⟨⟨RX5, TX5, 9, rfl, by decide, fun w h => mIn (inC_X5 w h), mIn (mAt (i := 455) (by decide +kernel)), fun h => absurd h (by decide)⟩, List.forall_mem_cons.mpr ⟨⟨RX3, TX3, 8, rfl, by decide, fun w h => mIn (inC_X3 w h), mIn (mAt (i := 456) (by decide +kernel)), fun _ => ⟨tyX3, tyX3_ok, nmX3, rfl, by decide +kernel⟩⟩, List.forall_mem_cons.mpr ⟨⟨RX3, TX3, 8, rfl, by decide, fun w h => mIn (inC_X3 w h), mIn (mAt (i := 457) (by decide +kernel)), fun _ => ⟨tyX3, tyX3_ok, nmX3, rfl, by decide +kernel⟩⟩, List.forall_mem_cons.mpr ⟨⟨RX5, TX5, 9, rfl, by decide, fun w h => mIn (inC_X5 w h), mIn (mAt (i := 458) (by decide +kernel)), fun h => absurd h (by decide)⟩, List.forall_mem_cons.mpr ⟨⟨RX7, TX7, 3, rfl, by decide, fun w h => mIn (inC_X7 w h), mIn (mAt (i := 459) (by decide +kernel)), fun _ => ⟨tyX7, tyX7_ok, nmX7, rfl, by decide +kernel⟩⟩, List.forall_mem_cons.mpr ⟨⟨RX5, TX5, 9, rfl, by decide, fun w h => mIn (inC_X5 w h), mIn (mAt (i := 460) (by decide +kernel)), fun h => absurd h (by decide)⟩, List.forall_mem_cons.mpr ⟨⟨RX6, TX6, 2, rfl, by decide, fun w h => mIn (inC_X6 w h), mIn (mAt (i := 461) (by decide +kernel)), fun _ => ⟨tyX6, tyX6_ok, nmX6, rfl, by decide +kernel⟩⟩, List.forall_mem_cons.mpr ⟨⟨RX5, TX5, 9, rfl, by decide, fun w h => mIn (inC_X5 w h), mIn (mAt (i := 462) (by decide +kernel)), fun h => absurd h (by decide)⟩, List.forall_mem_cons.mpr ⟨⟨RX4, TX4, 15, rfl, by decide, fun w h => mIn (inC_X4 w h), mIn (mAt (i := 463) (by decide +kernel)), fun _ => ⟨tyX4, tyX4_ok, nmX4, rfl, by decide +kernel⟩⟩, List.forall_mem_cons.mpr ⟨⟨RX4, TX4, 15, rfl, by decide, fun w h => mIn (inC_X4 w h), mIn (mAt (i := 464) (by decide +kernel)), fun _ => ⟨tyX4, tyX4_ok, nmX4, rfl, by decide +kernel⟩⟩, List.forall_mem_cons.mpr ⟨⟨RX4, TX4, 15, rfl, by decide, fun w h => mIn (inC_X4 w h), mIn (mAt (i := 465) (by decide +kernel)), fun _ => ⟨tyX4, tyX4_ok, nmX4, rfl, by decide +kernel⟩⟩, List.forall_mem_cons.mpr ⟨⟨RX4, TX4, 15, rfl, by decide, fun w h => mIn (inC_X4 w h), mIn (mAt (i := 466) (by decide +kernel)), fun _ => ⟨tyX4, tyX4_ok, nmX4, rfl, by decide +kernel⟩⟩, List.forall_mem_cons.mpr ⟨⟨RX5, TX5, 9, rfl, by decide, fun w h => mIn (inC_X5 w h), mIn (mAt (i := 467) (by decide +kernel)), fun h => absurd h (by decide)⟩, List.forall_mem_cons.mpr ⟨⟨RX2, TX2, 4, rfl, by decide, fun w h => mIn (inC_X2 w h), mIn (mAt (i := 468) (by decide +kernel)), fun _ => ⟨tyX2, tyX2_ok, nmX2, rfl, by decide +kernel⟩⟩, List.forall_mem_cons.mpr ⟨⟨RX3, TX3, 8, rfl, by decide, fun w h => mIn (inC_X3 w h), mIn (mAt (i := 469) (by decide +kernel)), fun _ => ⟨tyX3, tyX3_ok, nmX3, rfl, by decide +kernel⟩⟩, List.forall_mem_cons.mpr ⟨⟨RX7, TX7, 3, rfl, by decide, fun w h => mIn (inC_X7 w h), mIn (mAt (i := 470) (by decide +kernel)), fun _ => ⟨tyX7, tyX7_ok, nmX7, rfl, by decide +kernel⟩⟩, List.forall_mem_cons.mpr ⟨⟨RX5, TX5, 9, rfl, by decide, fun w h => mIn (inC_X5 w h), mIn (mAt (i := 471) (by decide +kernel)), fun _ => ⟨tyX5, tyX5_ok, nmX5, rfl, by decide +kernel⟩⟩, List.forall_mem_cons.mpr ⟨⟨RX2, TX2, 4, rfl, by decide, fun w h => mIn (inC_X2 w h), mIn (mAt (i := 472) (by decide +kernel)), fun _ => ⟨tyX2, tyX2_ok, nmX2, rfl, by decide +kernel⟩⟩, List.forall_mem_cons.mpr ⟨⟨RX8, TX8, 7, rfl, by decide, fun w h => mIn (inC_X8 w h), mIn (mAt (i := 473) (by decide +kernel)), fun _ => ⟨tyX8, tyX8_ok, nmX8, rfl, by decide +kernel⟩⟩, fun _ h => absurd h List.not_mem_nil⟩⟩⟩⟩⟩⟩⟩⟩⟩⟩⟩⟩⟩⟩⟩⟩⟩⟩⟩⟩⟩⟩⟩⟩⟩⟩⟩)
  have hK : ∀ q ∈ ([] : List (Nat × Int32)), Jvm.Cond.constant RX8 q.1 q.2 ∈ wkX8_about :=
    (fun _ h => absurd h List.not_mem_nil)
  have hC : ∀ q ∈ clX8_about, mCo l D vwCl ad tc shC wkX8_about RX8 rmX8_about q :=
    (List.forall_mem_cons.mpr ⟨Or.inl ⟨rfl, RX5, TX5, 9, yX5_stackPointer, cX5_stackPointer, 1, (some .int), wkX5_stackPointer, _, rmX5_stackPointer, rfl, mGoodV goodC (mAt (i := 474) (by decide +kernel)) (mAt (i := 152) (by decide +kernel)) (mAt (i := 153) (by decide +kernel)) (mAt (i := 77) (by decide +kernel)) (mAt (i := 148) (by decide +kernel)), rfl, rfl, rfl, by decide +kernel, by decide, metX5_stackPointer l D ad tc⟩, List.forall_mem_cons.mpr ⟨Or.inr ⟨rfl, yJ6_bitCount_0f7a4, cJ6_bitCount_0f7a4, 1, (some .int), wkJ6_bitCount_0f7a4, _, rmJ6_bitCount_0f7a4, mGoodS goodC (mAt (i := 475) (by decide +kernel)) (mAt (i := 477) (by decide +kernel)) (mAt (i := 476) (by decide +kernel)) (mAt (i := 442) (by decide +kernel)), rfl, rfl, rfl, by decide +kernel, by decide, metJ6_bitCount_0f7a4 l D ad tc⟩, List.forall_mem_cons.mpr ⟨Or.inl ⟨rfl, RX1, TX1, 8, yX1_waitingInterrupt, cX1_waitingInterrupt, 3, (some .int), wkX1_waitingInterrupt, _, rmX1_waitingInterrupt, rfl, mGoodV goodC (mAt (i := 478) (by decide +kernel)) (mAt (i := 479) (by decide +kernel)) (mAt (i := 480) (by decide +kernel)) (mAt (i := 111) (by decide +kernel)) (mAt (i := 358) (by decide +kernel)), rfl, rfl, rfl, by decide +kernel, by decide, metX1_waitingInterrupt l D ad tc⟩, fun _ h => absurd h List.not_mem_nil⟩⟩⟩)
  vThr_ofN (own := RX8) (Y0 := "java/lang/RuntimeException") (ni := 13) (nb := prog_28_method_4_code) (ik := 61) (ret := (some .int)) (Fd := fdX8_about) (Cl := clX8_about) (Ks := []) (Fi := [(21, 0), (131, 0), (10, 0), (137, 0), (140, 0), (143, 0), (146, 0), (149, 0), (79, 0), (152, 0), (155, 0), (163, 0), (167, 0), (172, 0), (176, 0), (47, 0), (181, 0), (184, 0), (187, 0), (190, 0), (108, 0), (193, 0), (196, 0), (199, 0), (200, 0), (203, 0), (25, 0)]) (Ci := [(134, 0), (158, 1), (204, 0)]) (bs := bsX8_about) rfl (by decide +kernel) rfl (by decide +kernel)
    (fun q hq => mFo_mono (fun _ => wT_sub) (hF q hq)) (fun q hq => wT_sub (hK q hq)) (fun q hq => mCo_mono (fun _ => wT_sub) (by decide) (by decide) (hC q hq)) rfl rfl (by decide +kernel) (by decide)
    hls (by decide +kernel) (by decide +kernel) (by decide +kernel) (by decide +kernel) (by decide +kernel) (by decide +kernel) (by decide +kernel) (by decide +kernel) (by decide +kernel) (mIn (wT_0 (by decide +kernel))) (mIn (wT_0 (by decide +kernel))) (fun w h => mIn (wT_tB w h)) (by decide +kernel)
    (by decide +kernel) (by decide +kernel) (by decide +kernel) (by decide +kernel) (by decide +kernel) (by decide) (by decide) rfl rfl hsp
