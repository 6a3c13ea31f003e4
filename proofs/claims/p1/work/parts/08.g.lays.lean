/-! lays: a text of words goes to FLASH; FlashBoardModel() -/
def flM : List (Option Nat) := [none, some 1, some 2, some 3, some 4, some 5, none, none, none, none, none, none, none, none, none, none, none, none, none, none, none, none, none, none, none, none, none, none, none, none, none, none, none, some 6, some 7, none, none, none, none]
def scW : List Nat := [60, 60, 60, 2]
theorem scW_ok : ∀ i, i < 4 → scL.getD i 0 = 5 * scW.getD i 0 ∧ scW.getD i 0 ≤ 60 := by decide +kernel
def wordI (i m : Nat) : Int32 := (((dgI (chI i (5 * m)) <<< (12 &&& 31)) ||| (dgI (chI i (5 * m + 1)) <<< (8 &&& 31))) ||| (dgI (chI i (5 * m + 2)) <<< (4 &&& 31))) ||| dgI (chI i (5 * m + 3))
def laid (g1 : Nat → Int32) (i b k : Nat) : Nat → Int32 := fun j => if b ≤ j ∧ j < b + k then wordI i (j - b) else g1 j
theorem laid_0 (g1 : Nat → Int32) (i b : Nat) : laid g1 i b 0 = g1 := by
  funext j
  unfold laid
  rw [if_neg (by omega)]
theorem laid_s (g1 : Nat → Int32) (i b k : Nat) : upd (laid g1 i b k) (b + k) (wordI i k) = laid g1 i b (k + 1) := by
  funext j
  by_cases hj : j = b + k
  · subst hj
    rw [pk_us]
    unfold laid
    rw [if_pos (by omega), Nat.add_sub_cancel_left]
  · rw [pk_un hj]
    unfold laid
    by_cases h : b ≤ j ∧ j < b + k
    · rw [if_pos h, if_pos (by omega)]
    · rw [if_neg h, if_neg (by omega)]
theorem mUp_u (g : mGn) (j : Nat) (y z : Nat → Int32) : mUp (mUp g j y) j z = mUp g j z := by
  funext i
  by_cases h : i = j
  · subst h; rw [mUp_s, mUp_s]
  · rw [mUp_n _ _ h, mUp_n _ _ h, mUp_n _ _ h]
theorem mUp_self (g : mGn) (j : Nat) : mUp g j (g j) = g := by
  funext i
  by_cases h : i = j
  · subst h; rw [mUp_s]
  · rw [mUp_n _ _ h]
set_option maxHeartbeats 4000000 in
set_option maxRecDepth 100000 in
theorem lays_loop {p : Program} {l : Launch} {e : Env} {R : Room} {s : State} {m : MethodId} {args : Array Value} {below : List Frame} {meth : Method} {c : Code} {cells slots : Nat} {Q : State → Prop} {D : va_G} {ad : Nat → Nat} {tc : Nat → ClassId} {A : Nat → Prop} {adK adV : Nat → Nat} {f : mFn} {g : mGn} {i b : Nat} (hx : p.tables.exec = Jvm.exec) (hb : c.code = cX9_lays) (hml : c.maxLocals = 4) (hown : s.vm.findClass RX9 = some m.cls) (hts : ∀ w ∈ .code yX9_lays cX9_lays 4 none :: wR, w.before args s = true) (hK : va_K D vwCl (mTy tc) s) (hA : ∀ q : Nat, s.heap.size ≤ q → A q) (hsc : scS adK adV A s s.heap) (hi : i < 4) (hbb : b + scW.getD i 0 ≤ 2048) (hcl : cells ≤ R.cells) (hsl : slots ≤ R.slots) (hR : 5 ≤ R.frames ∧ 182 ≤ R.locals)
    (kk : ∀ (H : Heap) (locs : List Loc) (ls : Array Slot), va_P D vwCl (mW ad tc shM f (mUp g 1 (laid (g 1) i b (scW.getD i 0)))) H → va_D A (mW ad tc shM f (mUp g 1 (laid (g 1) i b (scW.getD i 0)))) → va_S A s.heap H locs → W p l e R s m args below meth c H locs cells slots Q (F0 m 71 ls [])) :
    ∀ (t k : Nat) (H : Heap) (locs : List Loc) (ls : Array Slot), k ≤ scW.getD i 0 → scW.getD i 0 - k < t → lv_has ls 4 [(3, .int (nI k)), (0, .ref (ad 0)), (1, .ref (adK i)), (2, .int (nI b))] → va_P D vwCl (mW ad tc shM f (mUp g 1 (laid (g 1) i b k))) H → va_D A (mW ad tc shM f (mUp g 1 (laid (g 1) i b k))) → va_S A s.heap H locs → W p l e R s m args below meth c H locs cells slots Q (F0 m 2 ls []) := by
  obtain ⟨hW1, hW2⟩ := scW_ok i hi
  obtain ⟨hR1, hR2⟩ := hR
  intro t
  induction t with
  | zero => intro k H locs ls h1 hm; exact absurd hm (Nat.not_lt_zero _)
  | succ t ih =>
  intro k H locs ls hk hm hl hP hD hS
  refine lv_iconst (v := 5) hx hb dX9_lays_2 (by decide) ?_
  refine lv_iload_n hx hb dX9_lays_3 rfl (lv_at hl 0 rfl) ?_
  refine lv_imul hx hb dX9_lays_4  ?_
  rw [show (5 : Int32) * nI k = nI (5 * k) from pk_mul 5 k]
  refine lv_aload_n hx hb dX9_lays_5 rfl (lv_at hl 2 rfl) ?_
  have hF := rdF hS hA
  refine va_calli (va_runV (As := []) (rest := [.int (nI (5 * k))]) ⟨hx, hb, hml, hown, hts⟩ (cJ0_length_8abf5_ok l adK adV i hi H.size) (cwV 0 hts (mGoodV goodR (List.mem_append_left _ (List.mem_of_getElem? (i := 10) (by decide +kernel))) (List.mem_append_left _ (List.mem_of_getElem? (i := 11) (by decide +kernel))) (List.mem_append_left _ (List.mem_of_getElem? (i := 12) (by decide +kernel))) (List.mem_append_left _ (List.mem_of_getElem? (i := 13) (by decide +kernel))) (List.mem_append_left _ (List.mem_of_getElem? (i := 14) (by decide +kernel)))) rfl rfl rfl (by decide +kernel) ⟨by show 1 + 1 ≤ _; omega, by show 8 + (1 + 11) + 40 ≤ _; omega⟩) ⟨rdBlind, vk_recv hsc.1 hi hS, fun U hU hW => ⟨rfl, by rw [hU], hsc.at hS hF hU hW⟩⟩ rfl rfl hl.1 rfl (lv_room (Nat.le_of_ble_eq_true rfl)) dX9_lays_6 ⟨hcl, hsl⟩) hS (fun q _ h => hF q h) hF (fun r u t H1 locs ht hvm hpost hB hz1 hk1 hS => ?_)
  subst hpost
  have hP := rdKeep hP hk1
  clear hF hB
  generalize H1 = H at hP hS ⊢
  refine lv_icmp_ge (tgt := 71) hx hb dX9_lays_9 (by decide) (fun z => ?_) (fun z => ?_)
  · have e : k = scW.getD i 0 := by
      rcases Nat.lt_or_ge k (scW.getD i 0) with y | y
      · exact absurd z (nI_ge (by omega) (scL_ok i hi).1)
      · omega
    subst e
    exact kk H _ ls hP hD hS
  have hk2 : k < scW.getD i 0 := by
    rcases Nat.lt_or_ge k (scW.getD i 0) with y | y
    · exact y
    · exact absurd (nI_le (by omega) (by omega)) z
  refine lv_aload_n hx hb dX9_lays_12 rfl (lv_at hl 1 rfl) ?_
  refine va_get (D := D) (ci := 12) (v := .ref (ad 1)) (C := RX9) (T := TX9) (N := 39) hx hb hts (fun w h => mIn (inR_X9 w h)) hown hK hP 0 (mW_get (c := .inl (12, flM)) (i := 0) rfl) rfl 1 (by decide) (hts (.fieldLink RX9 7 "FlashBoardModel" "flash" "[I") (mIn (List.mem_append_right _ (mAt (i := 57) (by decide +kernel))))) (fun _ h9 => h9) (by rw [mFl_get]; rfl) dX9_lays_13 ?_
  refine lv_iload_n hx hb dX9_lays_16 rfl (lv_at hl 3 rfl) ?_
  refine lv_iload_n hx hb dX9_lays_17 rfl (lv_at hl 0 rfl) ?_
  refine lv_iadd hx hb dX9_lays_18  ?_
  rw [nI_add]
  refine lv_aload_n hx hb dX9_lays_19 rfl (lv_at hl 2 rfl) ?_
  refine lv_iconst (v := 5) hx hb dX9_lays_20 (by decide) ?_
  refine lv_iload_n hx hb dX9_lays_21 rfl (lv_at hl 0 rfl) ?_
  refine lv_imul hx hb dX9_lays_22  ?_
  rw [show (5 : Int32) * nI k = nI (5 * k) from pk_mul 5 k]
  have hF := rdF hS hA
  refine va_calli (va_runS (As := [.ref (adK i), .int (nI (5 * k))]) (rest := [.int (nI (b + k)), .ref (ad 1)]) ⟨hx, hb, hml, hown, hts⟩ (cX9_digit_ok l adK adV i (5 * k) hi (by omega) H.size) (va_cwS 2 hts (mGoodS goodR (List.mem_append_left _ (List.mem_of_getElem? (i := 22) (by decide +kernel))) (List.mem_append_left _ (List.mem_of_getElem? (i := 23) (by decide +kernel))) (List.mem_append_right _ (mAt (i := 8) (by decide +kernel))) (List.mem_append_left _ (List.mem_of_getElem? (i := 24) (by decide +kernel)))) rfl rfl rfl (by decide +kernel) ⟨by show 4 + 1 ≤ _; omega, by show 8 + (3 + 11) + 160 ≤ _; omega⟩) ⟨rdBlind, fun U hU hW => ⟨rfl, by rw [hU], hsc.at hS hF hU hW⟩⟩ rfl rfl hl.1 rfl (lv_room (Nat.le_of_ble_eq_true rfl)) dX9_lays_23 ⟨hcl, hsl⟩) hS (fun q _ h => hF q h) hF (fun r u t H1 locs ht hvm hpost hB hz1 hk1 hS => ?_)
  subst hpost
  have hP := rdKeep hP hk1
  clear hF hB
  generalize H1 = H at hP hS ⊢
  refine lv_bipush (v := 12) hx hb dX9_lays_26 (by decide) ?_
  refine lv_ishl hx hb dX9_lays_28  ?_
  refine lv_aload_n hx hb dX9_lays_29 rfl (lv_at hl 2 rfl) ?_
  refine lv_iconst (v := 5) hx hb dX9_lays_30 (by decide) ?_
  refine lv_iload_n hx hb dX9_lays_31 rfl (lv_at hl 0 rfl) ?_
  refine lv_imul hx hb dX9_lays_32  ?_
  rw [show (5 : Int32) * nI k = nI (5 * k) from pk_mul 5 k]
  refine lv_iconst (v := 1) hx hb dX9_lays_33 (by decide) ?_
  refine lv_iadd hx hb dX9_lays_34  ?_
  rw [nI_1]
  have hF := rdF hS hA
  refine va_calli (va_runS (As := [.ref (adK i), .int (nI (5 * k + 1))]) (rest := [.int (dgI (chI i (5 * k)) <<< (12 &&& 31)), .int (nI (b + k)), .ref (ad 1)]) ⟨hx, hb, hml, hown, hts⟩ (cX9_digit_ok l adK adV i (5 * k + 1) hi (by omega) H.size) (va_cwS 2 hts (mGoodS goodR (List.mem_append_left _ (List.mem_of_getElem? (i := 22) (by decide +kernel))) (List.mem_append_left _ (List.mem_of_getElem? (i := 23) (by decide +kernel))) (List.mem_append_right _ (mAt (i := 8) (by decide +kernel))) (List.mem_append_left _ (List.mem_of_getElem? (i := 24) (by decide +kernel)))) rfl rfl rfl (by decide +kernel) ⟨by show 4 + 1 ≤ _; omega, by show 8 + (3 + 11) + 160 ≤ _; omega⟩) ⟨rdBlind, fun U hU hW => ⟨rfl, by rw [hU], hsc.at hS hF hU hW⟩⟩ rfl rfl hl.1 rfl (lv_room (Nat.le_of_ble_eq_true rfl)) dX9_lays_35 ⟨hcl, hsl⟩) hS (fun q _ h => hF q h) hF (fun r u t H1 locs ht hvm hpost hB hz1 hk1 hS => ?_)
  subst hpost
  have hP := rdKeep hP hk1
  clear hF hB
  generalize H1 = H at hP hS ⊢
  refine lv_bipush (v := 8) hx hb dX9_lays_38 (by decide) ?_
  refine lv_ishl hx hb dX9_lays_40  ?_
  refine lv_ior hx hb dX9_lays_41  ?_
  refine lv_aload_n hx hb dX9_lays_42 rfl (lv_at hl 2 rfl) ?_
  refine lv_iconst (v := 5) hx hb dX9_lays_43 (by decide) ?_
  refine lv_iload_n hx hb dX9_lays_44 rfl (lv_at hl 0 rfl) ?_
  refine lv_imul hx hb dX9_lays_45  ?_
  rw [show (5 : Int32) * nI k = nI (5 * k) from pk_mul 5 k]
  refine lv_iconst (v := 2) hx hb dX9_lays_46 (by decide) ?_
  refine lv_iadd hx hb dX9_lays_47  ?_
  rw [show nI (5 * k) + (2 : Int32) = nI (5 * k + 2) from nI_add _ 2]
  have hF := rdF hS hA
  refine va_calli (va_runS (As := [.ref (adK i), .int (nI (5 * k + 2))]) (rest := [.int ((dgI (chI i (5 * k)) <<< (12 &&& 31)) ||| (dgI (chI i (5 * k + 1)) <<< (8 &&& 31))), .int (nI (b + k)), .ref (ad 1)]) ⟨hx, hb, hml, hown, hts⟩ (cX9_digit_ok l adK adV i (5 * k + 2) hi (by omega) H.size) (va_cwS 2 hts (mGoodS goodR (List.mem_append_left _ (List.mem_of_getElem? (i := 22) (by decide +kernel))) (List.mem_append_left _ (List.mem_of_getElem? (i := 23) (by decide +kernel))) (List.mem_append_right _ (mAt (i := 8) (by decide +kernel))) (List.mem_append_left _ (List.mem_of_getElem? (i := 24) (by decide +kernel)))) rfl rfl rfl (by decide +kernel) ⟨by show 4 + 1 ≤ _; omega, by show 8 + (3 + 11) + 160 ≤ _; omega⟩) ⟨rdBlind, fun U hU hW => ⟨rfl, by rw [hU], hsc.at hS hF hU hW⟩⟩ rfl rfl hl.1 rfl (lv_room (Nat.le_of_ble_eq_true rfl)) dX9_lays_48 ⟨hcl, hsl⟩) hS (fun q _ h => hF q h) hF (fun r u t H1 locs ht hvm hpost hB hz1 hk1 hS => ?_)
  subst hpost
  have hP := rdKeep hP hk1
  clear hF hB
  generalize H1 = H at hP hS ⊢
  refine lv_iconst (v := 4) hx hb dX9_lays_51 (by decide) ?_
  refine lv_ishl hx hb dX9_lays_52  ?_
  refine lv_ior hx hb dX9_lays_53  ?_
  refine lv_aload_n hx hb dX9_lays_54 rfl (lv_at hl 2 rfl) ?_
  refine lv_iconst (v := 5) hx hb dX9_lays_55 (by decide) ?_
  refine lv_iload_n hx hb dX9_lays_56 rfl (lv_at hl 0 rfl) ?_
  refine lv_imul hx hb dX9_lays_57  ?_
  rw [show (5 : Int32) * nI k = nI (5 * k) from pk_mul 5 k]
  refine lv_iconst (v := 3) hx hb dX9_lays_58 (by decide) ?_
  refine lv_iadd hx hb dX9_lays_59  ?_
  rw [show nI (5 * k) + (3 : Int32) = nI (5 * k + 3) from nI_add _ 3]
  have hF := rdF hS hA
  refine va_calli (va_runS (As := [.ref (adK i), .int (nI (5 * k + 3))]) (rest := [.int (((dgI (chI i (5 * k)) <<< (12 &&& 31)) ||| (dgI (chI i (5 * k + 1)) <<< (8 &&& 31))) ||| (dgI (chI i (5 * k + 2)) <<< (4 &&& 31))), .int (nI (b + k)), .ref (ad 1)]) ⟨hx, hb, hml, hown, hts⟩ (cX9_digit_ok l adK adV i (5 * k + 3) hi (by omega) H.size) (va_cwS 2 hts (mGoodS goodR (List.mem_append_left _ (List.mem_of_getElem? (i := 22) (by decide +kernel))) (List.mem_append_left _ (List.mem_of_getElem? (i := 23) (by decide +kernel))) (List.mem_append_right _ (mAt (i := 8) (by decide +kernel))) (List.mem_append_left _ (List.mem_of_getElem? (i := 24) (by decide +kernel)))) rfl rfl rfl (by decide +kernel) ⟨by show 4 + 1 ≤ _; omega, by show 8 + (3 + 11) + 160 ≤ _; omega⟩) ⟨rdBlind, fun U hU hW => ⟨rfl, by rw [hU], hsc.at hS hF hU hW⟩⟩ rfl rfl hl.1 rfl (lv_room (Nat.le_of_ble_eq_true rfl)) dX9_lays_60 ⟨hcl, hsl⟩) hS (fun q _ h => hF q h) hF (fun r u t H1 locs ht hvm hpost hB hz1 hk1 hS => ?_)
  subst hpost
  have hP := rdKeep hP hk1
  clear hF hB
  generalize H1 = H at hP hS ⊢
  refine lv_ior hx hb dX9_lays_63  ?_
  refine va_iast hx hb hK hP hD hS 1 0 (mW_get (c := .inr (0, 2048)) (i := 1) rfl) rfl (vp_in_nI (n := b + k) (N := 2048) (by omega) (by decide)) dX9_lays_64 (fun H locs hP hD hS => ?_)
  rw [mW_arr (j := 1) (t := 0) (n := 2048) rfl, nI_clamp (by omega), mUp_u, mUp_s] at hP hD
  have e : upd (laid (g 1) i b k) (b + k) ((((dgI (chI i (5 * k)) <<< (12 &&& 31)) ||| (dgI (chI i (5 * k + 1)) <<< (8 &&& 31))) ||| (dgI (chI i (5 * k + 2)) <<< (4 &&& 31))) ||| dgI (chI i (5 * k + 3))) = laid (g 1) i b (k + 1) := laid_s (g 1) i b k
  rw [e] at hP hD
  refine lv_iinc (v := nI k + 1) (lv' := [(3, .int (nI k + 1)), (0, .ref (ad 0)), (1, .ref (adK i)), (2, .int (nI b))]) hx hb dX9_lays_65 hl (k := 0) rfl rfl (by decide) rfl (fun ls hl => ?_)
  refine lv_goto (tgt := 2) hx hb dX9_lays_68 (by decide) ?_
  rw [nI_1] at hl
  exact ih (k + 1) H _ ls hk2 (by omega) hl hP hD hS
theorem layBlind {adK adV : Nat → Nat} {A : Nat → Prop} {l1 : List Value} {sz : Nat} {D : va_G} {cl : List vw_C} {W0 : va_W} {tys : List (ClassId × FieldType)} : FrameBlind (va_Pc l1 (fun U => U.heap.size = sz ∧ va_P D cl W0 U.heap ∧ va_K D cl tys U ∧ va_D (fun _ => True) W0 ∧ scS adK adV A U U.heap)) := fun a U g mk q => by
  obtain ⟨q0, q1, qP, qK, qD, qL⟩ := q
  exact ⟨q0, q1, qP, va_K.moved (u := U) (U := U.calling g mk a) (Vm.Alike.refl U.vm) qK, qD, scS.blind (U := U) (U' := U.calling g mk a) rfl rfl qL⟩
set_option maxHeartbeats 4000000 in
set_option maxRecDepth 100000 in
theorem cX9_lays_ok (l : Launch) (D : va_G) (ad : Nat → Nat) (tc : Nat → ClassId) (adK adV : Nat → Nat) (f : mFn) (g : mGn) (i b : Nat) (hi : i < 4) (hbb : b + scW.getD i 0 ≤ 2048) (sz : Nat) : Met l yX9_lays (.code yX9_lays cX9_lays 4 none :: wR) ({ frames := 6, cells := 0, slots := 0, locals := 200 } : Room) (va_Pc [.ref (ad 0), .ref (adK i), .int (nI b)] (fun U => U.heap.size = sz ∧ va_P D vwCl (mW ad tc shM f g) U.heap ∧ va_K D vwCl (mTy tc) U ∧ va_D (fun _ => True) (mW ad tc shM f g) ∧ scS adK adV (va_A (mW ad tc shM f g) sz) U U.heap)) (va_Qv (fun _ : Unit => True) (fun _ t => va_P D vwCl (mW ad tc shM f (mUp g 1 (laid (g 1) i b (scW.getD i 0)))) t.heap ∧ va_D (va_A (mW ad tc shM f g) sz) (mW ad tc shM f (mUp g 1 (laid (g 1) i b (scW.getD i 0))))) (va_A (mW ad tc shM f g) sz)) 0 0 (va_A (mW ad tc shM f g) sz) := by
  refine Met.ofW (cc := cX9_lays) (maxL := 4) (ret := none) (by decide +kernel) rfl ?_
  intro p e s m args below meth c s₁ B hml hv
  obtain ⟨rfl, hsz, hP, hK, hD0, hsc⟩ := hv
  have hx := B.exec
  have hb := B.bytes
  have hr := B.returns
  have hts := atoms_spec (ws := .code yX9_lays cX9_lays 4 none :: wR) B.pre
  have hown : s.vm.findClass RX9 = some m.cls := findClass_of_methodNamed B.named
  have hlocks := B.notSynchronized
  subst hsz
  have hD := hD0.self (sz := s.heap.size)
  generalize hAe : va_A (mW ad tc shM f g) s.heap.size = A at hD hsc ⊢
  have hA : ∀ q : Nat, s.heap.size ≤ q → A q := fun q h => by rw [← hAe]; exact Or.inr h
  have hS : va_S A s.heap s.heap [] := va_S.rf
  have hl := lv_entry ([.ref (ad 0), .ref (adK i), .int (nI b)]) (n := 4) (Nat.le_of_ble_eq_true rfl)
  rw [lg_entry_eq]
  generalize (lg_sl ([.ref (ad 0), .ref (adK i), .int (nI b)]) ++ List.replicate (4 - (lg_sl ([.ref (ad 0), .ref (adK i), .int (nI b)])).length) Slot.unset).toArray = ls at hl ⊢
  have hl : lv_has ls 4 [(0, .ref (ad 0)), (1, .ref (adK i)), (2, .int (nI b))] := hl
  refine lv_iconst (v := 0) hx hb dX9_lays_0 (by decide) ?_
  refine lv_istore_n (lv' := [(3, .int (nI 0)), (0, .ref (ad 0)), (1, .ref (adK i)), (2, .int (nI b))]) hx hb dX9_lays_1 rfl hl (by decide) rfl (fun ls hl => ?_)
  refine lays_loop (f := f) (g := g) (ad := ad) hx hb hml hown hts hK hA hsc hi hbb (by decide) (by decide) ⟨by decide, by decide⟩ (fun H locs ls hP hD hS => ?_) (scW.getD i 0 + 1) 0 _ _ ls (Nat.zero_le _) (by omega) hl ?_ ?_ hS
  · exact W.vret hx hb hr (fun t ht hW => ⟨⟨(), rfl, trivial, by rw [ht]; exact hP, hD⟩, hS.F ht⟩) hS.2.2 dX9_lays_71
  · rw [laid_0, mUp_self]; exact hP
  · rw [laid_0, mUp_self]; exact hD
