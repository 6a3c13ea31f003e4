/-! the texts of the loader: java.lang.String.length, charAt over the four constants; digit, lays -/
def scL : List Nat := [300, 300, 300, 10]
def scB0 : List Int32 := [69, 48, 48, 52, 32, 66, 70, 48, 69, 32, 69, 70, 48, 70, 32, 66, 70, 48, 68, 32, 66, 55, 49, 52, 32, 50, 52, 49, 49, 32, 66, 69, 49, 52, 32, 57, 53, 65, 56, 32, 70, 68, 49, 51, 32, 67, 48, 57, 65, 32, 69, 49, 48, 56, 32, 57, 51, 48, 48, 32, 48, 48, 54, 48, 32, 69, 48, 48, 68, 32, 57, 51, 48, 48, 32, 48, 48, 54, 48, 32, 57, 50, 49, 48, 32, 48, 48, 67, 53, 32, 57, 50, 49, 48, 32, 48, 48, 67, 52, 32, 69, 49, 48, 56, 32, 57, 51, 48, 48, 32, 48, 48, 67, 49, 32, 68, 48, 54, 67, 32, 51, 51, 48, 48, 32, 70, 48, 68, 57, 32, 51, 53, 48, 53, 32, 70, 48, 65, 57, 32, 51, 54, 48, 52, 32, 70, 48, 68, 57, 32, 51, 55, 48, 52, 32, 70, 48, 51, 57, 32, 51, 55, 48, 53, 32, 70, 48, 51, 57, 32, 51, 53, 48, 49, 32, 70, 48, 50, 49, 32, 68, 48, 54, 69, 32, 69, 49, 48, 50, 32, 67, 48, 49, 48, 32, 67, 48, 53, 49, 32, 67, 48, 55, 51, 32, 68, 48, 54, 57, 32, 69, 49, 48, 69, 32, 68, 48, 54, 48, 32, 69, 57, 48, 51, 32, 68, 48, 53, 69, 32, 69, 48, 48, 55, 32, 68, 48, 53, 67, 32, 67, 48, 48, 53, 32, 68, 48, 53, 50, 32, 50, 70, 56, 48, 32, 68, 48, 53, 48, 32, 50, 70, 57, 48, 32, 68, 48, 53, 68, 32, 69, 49, 48, 48, 32, 68, 48, 53, 52, 32, 67, 70, 68, 69, 32, 68, 48, 52, 65, 32, 50, 70, 52, 48, 32, 68, 48, 52, 56, 32]
def scB1 : List Int32 := [50, 70, 53, 48, 32, 68, 48, 52, 54, 32, 50, 70, 54, 48, 32, 69, 48, 65, 48, 32, 69, 48, 66, 49, 32, 50, 55, 55, 55, 32, 69, 52, 51, 48, 32, 68, 48, 52, 48, 32, 57, 51, 48, 68, 32, 50, 55, 55, 48, 32, 57, 53, 51, 65, 32, 70, 55, 68, 57, 32, 68, 48, 51, 66, 32, 50, 55, 55, 48, 32, 68, 48, 52, 56, 32, 50, 66, 52, 55, 32, 70, 53, 48, 49, 32, 51, 52, 53, 48, 32, 70, 52, 70, 49, 32, 51, 52, 54, 54, 32, 70, 52, 69, 49, 32, 50, 70, 50, 56, 32, 55, 49, 50, 70, 32, 70, 52, 67, 57, 32, 51, 48, 57, 54, 32, 70, 52, 66, 56, 32, 68, 48, 49, 56, 32, 69, 48, 50, 51, 32, 68, 48, 49, 65, 32, 69, 49, 50, 49, 32, 68, 48, 49, 56, 32, 69, 48, 65, 48, 32, 69, 48, 66, 49, 32, 69, 50, 51, 48, 32, 57, 48, 48, 68, 32, 57, 48, 49, 68, 32, 69, 48, 50, 49, 32, 68, 48, 49, 49, 32, 57, 54, 51, 50, 32, 57, 53, 51, 65, 32, 70, 55, 67, 57, 32, 50, 52, 49, 49, 32, 53, 52, 69, 48, 32, 52, 48, 70, 48, 32, 69, 48, 50, 53, 32, 68, 48, 48, 57, 32, 69, 49, 50, 49, 32, 68, 48, 48, 55, 32, 67, 70, 67, 57, 32, 69, 49, 48, 49, 32, 67, 70, 67, 56, 32, 48, 49, 70, 67, 32, 48, 70, 69, 69, 32, 49, 70, 70, 70, 32, 57, 53, 48, 56, 32, 66, 55, 49, 55, 32, 70, 68, 49, 48, 32, 67, 70, 70, 68, 32, 66, 70, 50, 55, 32, 57, 53, 69, 56, 32]
def scB2 : List Int32 := [57, 53, 48, 56, 32, 68, 48, 48, 65, 32, 68, 48, 48, 57, 32, 68, 48, 48, 56, 32, 68, 48, 49, 54, 32, 68, 70, 70, 49, 32, 69, 52, 51, 48, 32, 57, 49, 48, 53, 32, 68, 48, 48, 66, 32, 57, 53, 51, 65, 32, 70, 55, 69, 49, 32, 67, 70, 66, 50, 32, 57, 49, 48, 48, 32, 48, 48, 67, 48, 32, 70, 70, 48, 55, 32, 67, 70, 70, 67, 32, 57, 53, 65, 56, 32, 57, 49, 48, 48, 32, 48, 48, 67, 54, 32, 57, 53, 48, 56, 32, 57, 49, 50, 48, 32, 48, 48, 67, 48, 32, 70, 70, 50, 53, 32, 67, 70, 70, 67, 32, 57, 51, 48, 48, 32, 48, 48, 67, 54, 32, 57, 53, 48, 56, 32, 68, 70, 70, 48, 32, 51, 50, 48, 48, 32, 70, 48, 50, 49, 32, 57, 49, 50, 70, 32, 57, 49, 50, 70, 32, 69, 49, 48, 53, 32, 67, 70, 57, 68, 32, 69, 49, 48, 52, 32, 67, 70, 70, 48, 32, 68, 70, 70, 54, 32, 69, 49, 48, 48, 32, 68, 70, 69, 68, 32, 57, 49, 50, 48, 32, 48, 48, 67, 48, 32, 70, 70, 50, 54, 32, 67, 70, 70, 67, 32, 67, 48, 48, 55, 32, 50, 55, 69, 69, 32, 50, 55, 70, 70, 32, 57, 49, 48, 53, 32, 57, 49, 49, 52, 32, 50, 51, 48, 49, 32, 51, 70, 48, 70, 32, 70, 48, 53, 49, 32, 57, 50, 49, 48, 32, 48, 48, 67, 49, 32, 69, 49, 48, 56, 32, 57, 51, 48, 48, 32, 48, 48, 54, 48, 32, 57, 50, 49, 48, 32, 48, 48, 54, 48, 32, 50, 55, 69, 69, 32, 50, 55, 70, 70, 32]
def scB3 : List Int32 := [57, 52, 48, 57, 32, 67, 70, 53, 52, 32]
def scB : List (List Int32) := [scB0, scB1, scB2, scB3]
def scI : List Nat := [44, 50, 52, 54]
def scT : List String := ["E004 BF0E EF0F BF0D B714 2411 BE14 95A8 FD13 C09A E108 9300 0060 E00D 9300 0060 9210 00C5 9210 00C4 E108 9300 00C1 D06C 3300 F0D9 3505 F0A9 3604 F0D9 3704 F039 3705 F039 3501 F021 D06E E102 C010 C051 C073 D069 E10E D060 E903 D05E E007 D05C C005 D052 2F80 D050 2F90 D05D E100 D054 CFDE D04A 2F40 D048 ", "2F50 D046 2F60 E0A0 E0B1 2777 E430 D040 930D 2770 953A F7D9 D03B 2770 D048 2B47 F501 3450 F4F1 3466 F4E1 2F28 712F F4C9 3096 F4B8 D018 E023 D01A E121 D018 E0A0 E0B1 E230 900D 901D E021 D011 9632 953A F7C9 2411 54E0 40F0 E025 D009 E121 D007 CFC9 E101 CFC8 01FC 0FEE 1FFF 9508 B717 FD10 CFFD BF27 95E8 ", "9508 D00A D009 D008 D016 DFF1 E430 9105 D00B 953A F7E1 CFB2 9100 00C0 FF07 CFFC 95A8 9100 00C6 9508 9120 00C0 FF25 CFFC 9300 00C6 9508 DFF0 3200 F021 912F 912F E105 CF9D E104 CFF0 DFF6 E100 DFED 9120 00C0 FF26 CFFC C007 27EE 27FF 9105 9114 2301 3F0F F051 9210 00C1 E108 9300 0060 9210 0060 27EE 27FF ", "9409 CF54 "]
theorem scL_ok : ∀ i, i < 4 → scL.getD i 0 < 2 ^ 31 ∧ scL.getD i 0 ≤ 300 := by decide +kernel
def scS (adK adV : Nat → Nat) (A : Nat → Prop) (U : State) (H : Heap) : Prop := vk_S 4 scL scB adK adV A U H ∧ va_Z "java/lang/String" "COMPACT_STRINGS" "Z" (.int 1) A U H ∧ va_Zq "jdk/internal/util/Preconditions" "SIOOBE_FORMATTER" "Ljava/util/function/BiFunction;" A U H
theorem scS.at {adK adV : Nat → Nat} {A0 A1 : Nat → Prop} {s U : State} {H : Heap} {locs : List Loc} (h : scS adK adV A0 s s.heap) (hS : va_S A0 s.heap H locs) (hA : ∀ q, A1 q → A0 q) (hU : U.heap = H) (hW : s.WarmedH U.vm) : scS adK adV A1 U U.heap := by
  obtain ⟨h1, h2, h3⟩ := h
  rw [hU]
  exact ⟨((vk_S.moved hW.alike h1).kept hS.2.1).narrow hA, ((va_Z.moved hW.alike h2).kept hS.2.1).narrow hA, ((va_Zq.moved hW.alike h3).kept hS.2.1).narrow hA⟩
theorem scS.blind {adK adV : Nat → Nat} {A : Nat → Prop} {U U' : State} (hv : U'.vm = U.vm) (hh : U'.heap = U.heap) (h : scS adK adV A U U.heap) : scS adK adV A U' U'.heap := by
  obtain ⟨h1, h2, h3⟩ := h
  have hal : U.vm.Alike U'.vm := by rw [hv]; exact Vm.Alike.refl U.vm
  rw [hh]
  exact ⟨vk_S.moved hal h1, va_Z.moved hal h2, va_Zq.moved hal h3⟩
abbrev rdP (adK adV : Nat → Nat) (l1 : List Value) (sz : Nat) : Array Value → State → Prop := va_Pc l1 (fun U => U.heap.size = sz ∧ scS adK adV (va_A [] sz) U U.heap)
abbrev rdQ (r : Int32) (sz : Nat) : Array Value → State → Outcome → State → Prop := va_Qi (fun (v : Int32) (_ : Unit) => v = r) (fun _ _ => True) (va_A [] sz)
theorem rdBlind {adK adV : Nat → Nat} {l1 : List Value} {sz : Nat} : FrameBlind (rdP adK adV l1 sz) := fun a U g mk q => by
  obtain ⟨q0, q1, qL⟩ := q
  exact ⟨q0, q1, scS.blind (U := U) (U' := U.calling g mk a) rfl rfl qL⟩
theorem rdF {A : Nat → Prop} {H0 H : Heap} {locs : List Loc} (hS : va_S A H0 H locs) (hA : ∀ q, H0.size ≤ q → A q) : ∀ q, va_A [] H.size q → A q := fun q h => by
  rcases h with ⟨k, e, h⟩ | h
  · simp at h
  · exact hA q (Nat.le_trans hS.1 h)
theorem rdKeep {D : va_G} {cl : List vw_C} {ws : va_W} {H H1 : Heap} (hP : va_P D cl ws H) (hk : ∀ q : Nat, q < H.size → ¬ va_A [] H.size q → H1[q]? = H[q]?) : va_P D cl ws H1 := hP.kept fun k q h => hk _ (vx_lt hP h) (by
  rintro (⟨k2, e, h2⟩ | h2)
  · simp at h2
  · exact absurd (vx_lt hP h) (Nat.not_lt.mpr h2))
def chI (i k : Nat) : Int32 := (scB.getD i []).getD k 0 &&& 255
def dgI (c : Int32) : Int32 := if c ≤ 57 then c - 48 else c - 65 + 10
set_option maxHeartbeats 4000000 in
set_option maxRecDepth 100000 in
/-- coder() of a constant: 0 -/
theorem cJ0_coder_7d493_ok (l : Launch) (adK adV : Nat → Nat) (i : Nat) (hi : i < 4) (sz : Nat) : Met l yJ0_coder_7d493 (.code yJ0_coder_7d493 cJ0_coder_7d493 1 (some .byte) :: wR) ({ frames := 0, cells := 0, slots := 0, locals := 0 } : Room) (rdP adK adV [.ref (adK i)] sz) (va_Qi (fun (v : Int32) (_ : Unit) => v = 0) (fun _ _ => True) (va_A [] sz)) 0 0 (va_A [] sz) := by
  refine Met.ofW (cc := cJ0_coder_7d493) (maxL := 1) (ret := (some .byte)) (by decide +kernel) rfl ?_
  intro p e s m args below meth c s₁ B hml hv
  obtain ⟨rfl, hsz, hsc⟩ := hv
  have hx := B.exec
  have hb := B.bytes
  have hr := B.returns
  have hts := atoms_spec (ws := .code yJ0_coder_7d493 cJ0_coder_7d493 1 (some .byte) :: wR) B.pre
  have hown : s.vm.findClass RJ0 = some m.cls := findClass_of_methodNamed B.named
  have hlocks := B.notSynchronized
  subst hsz
  generalize hAe : va_A [] s.heap.size = A at hsc ⊢
  have hA : ∀ q : Nat, s.heap.size ≤ q → A q := fun q h => by rw [← hAe]; exact Or.inr h
  have hS : va_S A s.heap s.heap [] := va_S.rf
  have hl := lv_entry ([.ref (adK i)]) (n := 1) (Nat.le_of_ble_eq_true rfl)
  rw [lg_entry_eq]
  generalize (lg_sl ([.ref (adK i)]) ++ List.replicate (1 - (lg_sl ([.ref (adK i)])).length) Slot.unset).toArray = ls at hl ⊢
  have hl : lv_has ls 1 [(0, .ref (adK i))] := hl
  refine va_gets (C := "java/lang/String") (n := "COMPACT_STRINGS") (d := "Z") (v := .int 1) hx hb hsc.2.1 hS hown (hts (.fieldLink RJ0 38 "java/lang/String" "COMPACT_STRINGS" "Z") (mIn (List.mem_append_left _ (List.mem_of_getElem? (i := 20) (by decide +kernel))))) (fun _ h9 => h9) dJ0_coder_7d493_0 ?_
  refine lv_if_eq (tgt := 13) hx hb dJ0_coder_7d493_3 (by decide) (fun z => absurd z (by decide)) (fun _ => ?_)
  refine lv_aload_n hx hb dJ0_coder_7d493_6 rfl (lv_at hl 0 rfl) ?_
  refine vk_getf (o := "java/lang/String") (n := "coder") (d := "B") (v := .int 0) hx hb (hsc.1.1 i hi).2.1 hS hown (hts (.fieldLink RJ0 15 "java/lang/String" "coder" "B") (mIn (List.mem_append_left _ (List.mem_of_getElem? (i := 21) (by decide +kernel))))) (fun _ h9 => h9) dJ0_coder_7d493_7 ?_
  refine lv_goto (tgt := 14) hx hb dJ0_coder_7d493_10 (by decide) ?_
  exact W.zret (v := 0) hx hb hr (by decide) (fun t ht hW => ⟨⟨0, (), rfl, rfl, trivial⟩, hS.F ht⟩) hS.2.2 dJ0_coder_7d493_14
set_option maxHeartbeats 4000000 in
set_option maxRecDepth 100000 in
/-- isLatin1() of a constant: 1 -/
theorem cJ0_isLatin1_aae02_ok (l : Launch) (adK adV : Nat → Nat) (i : Nat) (hi : i < 4) (sz : Nat) : Met l yJ0_isLatin1_aae02 (.code yJ0_isLatin1_aae02 cJ0_isLatin1_aae02 1 (some .boolean) :: wR) ({ frames := 0, cells := 0, slots := 0, locals := 0 } : Room) (rdP adK adV [.ref (adK i)] sz) (va_Qi (fun (v : Int32) (_ : Unit) => v = 1) (fun _ _ => True) (va_A [] sz)) 0 0 (va_A [] sz) := by
  refine Met.ofW (cc := cJ0_isLatin1_aae02) (maxL := 1) (ret := (some .boolean)) (by decide +kernel) rfl ?_
  intro p e s m args below meth c s₁ B hml hv
  obtain ⟨rfl, hsz, hsc⟩ := hv
  have hx := B.exec
  have hb := B.bytes
  have hr := B.returns
  have hts := atoms_spec (ws := .code yJ0_isLatin1_aae02 cJ0_isLatin1_aae02 1 (some .boolean) :: wR) B.pre
  have hown : s.vm.findClass RJ0 = some m.cls := findClass_of_methodNamed B.named
  have hlocks := B.notSynchronized
  subst hsz
  generalize hAe : va_A [] s.heap.size = A at hsc ⊢
  have hA : ∀ q : Nat, s.heap.size ≤ q → A q := fun q h => by rw [← hAe]; exact Or.inr h
  have hS : va_S A s.heap s.heap [] := va_S.rf
  have hl := lv_entry ([.ref (adK i)]) (n := 1) (Nat.le_of_ble_eq_true rfl)
  rw [lg_entry_eq]
  generalize (lg_sl ([.ref (adK i)]) ++ List.replicate (1 - (lg_sl ([.ref (adK i)])).length) Slot.unset).toArray = ls at hl ⊢
  have hl : lv_has ls 1 [(0, .ref (adK i))] := hl
  refine va_gets (C := "java/lang/String") (n := "COMPACT_STRINGS") (d := "Z") (v := .int 1) hx hb hsc.2.1 hS hown (hts (.fieldLink RJ0 38 "java/lang/String" "COMPACT_STRINGS" "Z") (mIn (List.mem_append_left _ (List.mem_of_getElem? (i := 20) (by decide +kernel))))) (fun _ h9 => h9) dJ0_isLatin1_aae02_0 ?_
  refine lv_if_eq (tgt := 17) hx hb dJ0_isLatin1_aae02_3 (by decide) (fun z => absurd z (by decide)) (fun _ => ?_)
  refine lv_aload_n hx hb dJ0_isLatin1_aae02_6 rfl (lv_at hl 0 rfl) ?_
  refine vk_getf (o := "java/lang/String") (n := "coder") (d := "B") (v := .int 0) hx hb (hsc.1.1 i hi).2.1 hS hown (hts (.fieldLink RJ0 15 "java/lang/String" "coder" "B") (mIn (List.mem_append_left _ (List.mem_of_getElem? (i := 21) (by decide +kernel))))) (fun _ h9 => h9) dJ0_isLatin1_aae02_7 ?_
  refine lv_if_ne (tgt := 17) hx hb dJ0_isLatin1_aae02_10 (by decide) (fun z => absurd rfl z) (fun _ => ?_)
  refine lv_iconst (v := 1) hx hb dJ0_isLatin1_aae02_13 (by decide) ?_
  refine lv_goto (tgt := 18) hx hb dJ0_isLatin1_aae02_14 (by decide) ?_
  exact W.zret (v := 1) hx hb hr (by decide) (fun t ht hW => ⟨⟨1, (), rfl, rfl, trivial⟩, hS.F ht⟩) hS.2.2 dJ0_isLatin1_aae02_18
set_option maxHeartbeats 4000000 in
set_option maxRecDepth 100000 in
/-- length() of a constant -/
theorem cJ0_length_8abf5_ok (l : Launch) (adK adV : Nat → Nat) (i : Nat) (hi : i < 4) (sz : Nat) : Met l yJ0_length_8abf5 (.code yJ0_length_8abf5 cJ0_length_8abf5 1 (some .int) :: wR) ({ frames := 1, cells := 0, slots := 0, locals := 40 } : Room) (rdP adK adV [.ref (adK i)] sz) (va_Qi (fun (v : Int32) (_ : Unit) => v = nI (scL.getD i 0)) (fun _ _ => True) (va_A [] sz)) 0 0 (va_A [] sz) := by
  refine Met.ofW (cc := cJ0_length_8abf5) (maxL := 1) (ret := (some .int)) (by decide +kernel) rfl ?_
  intro p e s m args below meth c s₁ B hml hv
  obtain ⟨rfl, hsz, hsc⟩ := hv
  have hx := B.exec
  have hb := B.bytes
  have hr := B.returns
  have hts := atoms_spec (ws := .code yJ0_length_8abf5 cJ0_length_8abf5 1 (some .int) :: wR) B.pre
  have hown : s.vm.findClass RJ0 = some m.cls := findClass_of_methodNamed B.named
  have hlocks := B.notSynchronized
  subst hsz
  generalize hAe : va_A [] s.heap.size = A at hsc ⊢
  have hA : ∀ q : Nat, s.heap.size ≤ q → A q := fun q h => by rw [← hAe]; exact Or.inr h
  have hS : va_S A s.heap s.heap [] := va_S.rf
  have hl := lv_entry ([.ref (adK i)]) (n := 1) (Nat.le_of_ble_eq_true rfl)
  rw [lg_entry_eq]
  generalize (lg_sl ([.ref (adK i)]) ++ List.replicate (1 - (lg_sl ([.ref (adK i)])).length) Slot.unset).toArray = ls at hl ⊢
  have hl : lv_has ls 1 [(0, .ref (adK i))] := hl
  refine lv_aload_n hx hb dJ0_length_8abf5_0 rfl (lv_at hl 0 rfl) ?_
  refine vk_getf (o := "java/lang/String") (n := "value") (d := "[B") (v := .ref (adV i)) hx hb (hsc.1.1 i hi).2.2.1 hS hown (hts (.fieldLink RJ0 9 "java/lang/String" "value" "[B") (mIn (List.mem_append_left _ (List.mem_of_getElem? (i := 15) (by decide +kernel))))) (fun _ h9 => h9) dJ0_length_8abf5_1 ?_
  refine va_tlen (v := nI (scL.getD i 0)) hx hb (hsc.1.1 i hi).2.2.2 hS rfl dJ0_length_8abf5_4 ?_
  refine lv_aload_n hx hb dJ0_length_8abf5_5 rfl (lv_at hl 0 rfl) ?_
  have hF := rdF hS hA
  refine va_calli (va_runV (As := []) (rest := [.int (nI (scL.getD i 0))]) ⟨hx, hb, hml, hown, hts⟩ (cJ0_coder_7d493_ok l adK adV i hi s.heap.size) (cwV 0 hts (mGoodV goodR (List.mem_append_left _ (List.mem_of_getElem? (i := 16) (by decide +kernel))) (List.mem_append_left _ (List.mem_of_getElem? (i := 17) (by decide +kernel))) (List.mem_append_left _ (List.mem_of_getElem? (i := 18) (by decide +kernel))) (List.mem_append_left _ (List.mem_of_getElem? (i := 13) (by decide +kernel))) (List.mem_append_left _ (List.mem_of_getElem? (i := 19) (by decide +kernel)))) rfl rfl rfl (by decide +kernel) ⟨Nat.le_of_ble_eq_true rfl, Nat.le_of_ble_eq_true rfl⟩) ⟨rdBlind, vk_recv hsc.1 hi hS, fun U hU hW => ⟨rfl, by rw [hU], hsc.at hS hF hU hW⟩⟩ rfl rfl hl.1 rfl (lv_room (Nat.le_of_ble_eq_true rfl)) dJ0_length_8abf5_6 ⟨(by decide), (by decide)⟩) hS (fun q _ h => hF q h) hF (fun r u t H1 locs ht hvm hpost hB hz1 hk1 hS => ?_)
  subst hpost
  refine lv_ishr hx hb dJ0_length_8abf5_9 ?_
  rw [sc_shr0 (scL_ok i hi).1]
  exact W.iret (v := nI (scL.getD i 0)) hx hb hr (fun t ht hW => ⟨⟨_, (), rfl, rfl, trivial⟩, hS.F ht⟩) hS.2.2 dJ0_length_8abf5_10
set_option maxHeartbeats 4000000 in
set_option maxRecDepth 100000 in
/-- checkIndex(x, n, f) inside: x -/
theorem cJ3_checkIndex_8e157_ok (l : Launch) (adK adV : Nat → Nat) (x n : Nat) (v : Value) (hv0 : v = .null ∨ ∃ t, v = .ref t) (hxn : x < n) (hn : n < 2 ^ 31) (sz : Nat) : Met l yJ3_checkIndex_8e157 (.code yJ3_checkIndex_8e157 cJ3_checkIndex_8e157 3 (some .int) :: wR) ({ frames := 0, cells := 0, slots := 0, locals := 0 } : Room) (rdP adK adV [.int (nI x), .int (nI n), v] sz) (va_Qi (fun (v : Int32) (_ : Unit) => v = nI x) (fun _ _ => True) (va_A [] sz)) 0 0 (va_A [] sz) := by
  refine Met.ofW (cc := cJ3_checkIndex_8e157) (maxL := 3) (ret := (some .int)) (by decide +kernel) rfl ?_
  intro p e s m args below meth c s₁ B hml hv
  obtain ⟨rfl, hsz, hsc⟩ := hv
  have hx := B.exec
  have hb := B.bytes
  have hr := B.returns
  have hts := atoms_spec (ws := .code yJ3_checkIndex_8e157 cJ3_checkIndex_8e157 3 (some .int) :: wR) B.pre
  have hown : s.vm.findClass RJ3 = some m.cls := findClass_of_methodNamed B.named
  have hlocks := B.notSynchronized
  subst hsz
  generalize hAe : va_A [] s.heap.size = A at hsc ⊢
  have hA : ∀ q : Nat, s.heap.size ≤ q → A q := fun q h => by rw [← hAe]; exact Or.inr h
  have hS : va_S A s.heap s.heap [] := va_S.rf
  have hl : lv_has (lg_sl ([.int (nI x), .int (nI n), v]) ++ List.replicate (3 - (lg_sl ([.int (nI x), .int (nI n), v])).length) Slot.unset).toArray 3 [(0, .int (nI x)), (1, .int (nI n)), (2, v)] := by
    rcases hv0 with rfl | ⟨t, rfl⟩
    · exact lv_entry ([.int (nI x), .int (nI n), .null]) (n := 3) (Nat.le_of_ble_eq_true rfl)
    · exact lv_entry ([.int (nI x), .int (nI n), .ref t]) (n := 3) (Nat.le_of_ble_eq_true rfl)
  rw [lg_entry_eq]
  generalize (lg_sl ([.int (nI x), .int (nI n), v]) ++ List.replicate (3 - (lg_sl ([.int (nI x), .int (nI n), v])).length) Slot.unset).toArray = ls at hl ⊢
  refine lv_iload_n hx hb dJ3_checkIndex_8e157_0 rfl (lv_at hl 0 rfl) ?_
  refine lv_if_lt (tgt := 9) hx hb dJ3_checkIndex_8e157_1 (by decide) (fun z => absurd z (nI_pos (by omega))) (fun _ => ?_)
  refine lv_iload_n hx hb dJ3_checkIndex_8e157_4 rfl (lv_at hl 0 rfl) ?_
  refine lv_iload_n hx hb dJ3_checkIndex_8e157_5 rfl (lv_at hl 1 rfl) ?_
  refine lv_icmp_lt (tgt := 16) hx hb dJ3_checkIndex_8e157_6 (by decide) (fun _ => ?_) (fun z => absurd (nI_lt hxn hn) z)
  refine lv_iload_n hx hb dJ3_checkIndex_8e157_16 rfl (lv_at hl 0 rfl) ?_
  exact W.iret (v := nI x) hx hb hr (fun t ht hW => ⟨⟨_, (), rfl, rfl, trivial⟩, hS.F ht⟩) hS.2.2 dJ3_checkIndex_8e157_17
set_option maxHeartbeats 4000000 in
set_option maxRecDepth 100000 in
/-- checkIndex(x, n) inside -/
theorem cJ0_checkIndex_df160_ok (l : Launch) (adK adV : Nat → Nat) (x n : Nat) (hxn : x < n) (hn : n < 2 ^ 31) (sz : Nat) : Met l yJ0_checkIndex_df160 (.code yJ0_checkIndex_df160 cJ0_checkIndex_df160 2 none :: wR) ({ frames := 1, cells := 0, slots := 0, locals := 40 } : Room) (rdP adK adV [.int (nI x), .int (nI n)] sz) ((va_Qv (fun _ : Unit => True) (fun _ _ => True) (va_A [] sz))) 0 0 (va_A [] sz) := by
  refine Met.ofW (cc := cJ0_checkIndex_df160) (maxL := 2) (ret := none) (by decide +kernel) rfl ?_
  intro p e s m args below meth c s₁ B hml hv
  obtain ⟨rfl, hsz, hsc⟩ := hv
  have hx := B.exec
  have hb := B.bytes
  have hr := B.returns
  have hts := atoms_spec (ws := .code yJ0_checkIndex_df160 cJ0_checkIndex_df160 2 none :: wR) B.pre
  have hown : s.vm.findClass RJ0 = some m.cls := findClass_of_methodNamed B.named
  have hlocks := B.notSynchronized
  subst hsz
  generalize hAe : va_A [] s.heap.size = A at hsc ⊢
  have hA : ∀ q : Nat, s.heap.size ≤ q → A q := fun q h => by rw [← hAe]; exact Or.inr h
  have hS : va_S A s.heap s.heap [] := va_S.rf
  have hl := lv_entry ([.int (nI x), .int (nI n)]) (n := 2) (Nat.le_of_ble_eq_true rfl)
  rw [lg_entry_eq]
  generalize (lg_sl ([.int (nI x), .int (nI n)]) ++ List.replicate (2 - (lg_sl ([.int (nI x), .int (nI n)])).length) Slot.unset).toArray = ls at hl ⊢
  have hl : lv_has ls 2 [(0, .int (nI x)), (1, .int (nI n))] := hl
  refine lv_iload_n hx hb dJ0_checkIndex_df160_0 rfl (lv_at hl 0 rfl) ?_
  refine lv_iload_n hx hb dJ0_checkIndex_df160_1 rfl (lv_at hl 1 rfl) ?_
  obtain ⟨v, hv0, hZ⟩ : ∃ v : Value, (v = .null ∨ ∃ t, v = .ref t) ∧ va_Z "jdk/internal/util/Preconditions" "SIOOBE_FORMATTER" "Ljava/util/function/BiFunction;" v A s s.heap := by
    rcases hsc.2.2 with h | ⟨t, h⟩
    · exact ⟨.null, Or.inl rfl, h⟩
    · exact ⟨.ref t, Or.inr ⟨t, rfl⟩, h⟩
  have hc1 : v.category = 1 := by rcases hv0 with rfl | ⟨t, rfl⟩ <;> rfl
  refine va_gets (C := "jdk/internal/util/Preconditions") (n := "SIOOBE_FORMATTER") (d := "Ljava/util/function/BiFunction;") (v := v) hx hb hZ hS hown (hts (.fieldLink RJ0 1053 "jdk/internal/util/Preconditions" "SIOOBE_FORMATTER" "Ljava/util/function/BiFunction;") (mIn (List.mem_append_left _ (List.mem_of_getElem? (i := 40) (by decide +kernel))))) (fun _ h9 => h9) dJ0_checkIndex_df160_2 ?_
  have hF := rdF hS hA
  refine va_calli (va_runS (As := [.int (nI x), .int (nI n), v]) (rest := []) ⟨hx, hb, hml, hown, hts⟩ (cJ3_checkIndex_8e157_ok l adK adV x n v hv0 hxn hn s.heap.size) (va_cwS 3 hts (mGoodS goodR (List.mem_append_left _ (List.mem_of_getElem? (i := 41) (by decide +kernel))) (List.mem_append_left _ (List.mem_of_getElem? (i := 42) (by decide +kernel))) (List.mem_append_left _ (List.mem_of_getElem? (i := 43) (by decide +kernel))) (List.mem_append_left _ (List.mem_of_getElem? (i := 44) (by decide +kernel)))) rfl rfl rfl (by decide +kernel) ⟨Nat.le_of_ble_eq_true rfl, Nat.le_of_ble_eq_true rfl⟩) ⟨rdBlind, fun U hU hW => ⟨rfl, by rw [hU], hsc.at hS hF hU hW⟩⟩ rfl rfl hl.1 rfl (lv_room (Nat.le_of_ble_eq_true rfl)) dJ0_checkIndex_df160_5 ⟨(by decide), (by decide)⟩) hS (fun q _ h => hF q h) hF (fun r u t H1 locs ht hvm hpost hB hz1 hk1 hS => ?_)
  subst hpost
  refine lv_pop hx hb dJ0_checkIndex_df160_8 rfl ?_
  exact W.vret hx hb hr (fun t ht hW => ⟨⟨(), rfl, trivial, trivial⟩, hS.F ht⟩) hS.2.2 dJ0_checkIndex_df160_9
set_option maxHeartbeats 4000000 in
set_option maxRecDepth 100000 in
/-- charAt(row, x) -/
theorem cJ1_charAt_3b067_ok (l : Launch) (adK adV : Nat → Nat) (i x : Nat) (hi : i < 4) (hxn : x < scL.getD i 0) (sz : Nat) : Met l yJ1_charAt_3b067 (.code yJ1_charAt_3b067 cJ1_charAt_3b067 2 (some .char) :: wR) ({ frames := 2, cells := 0, slots := 0, locals := 80 } : Room) (rdP adK adV [.ref (adV i), .int (nI x)] sz) (va_Qi (fun (v : Int32) (_ : Unit) => v = chI i x) (fun _ _ => True) (va_A [] sz)) 0 0 (va_A [] sz) := by
  refine Met.ofW (cc := cJ1_charAt_3b067) (maxL := 2) (ret := (some .char)) (by decide +kernel) rfl ?_
  intro p e s m args below meth c s₁ B hml hv
  obtain ⟨rfl, hsz, hsc⟩ := hv
  have hx := B.exec
  have hb := B.bytes
  have hr := B.returns
  have hts := atoms_spec (ws := .code yJ1_charAt_3b067 cJ1_charAt_3b067 2 (some .char) :: wR) B.pre
  have hown : s.vm.findClass RJ1 = some m.cls := findClass_of_methodNamed B.named
  have hlocks := B.notSynchronized
  subst hsz
  generalize hAe : va_A [] s.heap.size = A at hsc ⊢
  have hA : ∀ q : Nat, s.heap.size ≤ q → A q := fun q h => by rw [← hAe]; exact Or.inr h
  have hS : va_S A s.heap s.heap [] := va_S.rf
  have hl := lv_entry ([.ref (adV i), .int (nI x)]) (n := 2) (Nat.le_of_ble_eq_true rfl)
  rw [lg_entry_eq]
  generalize (lg_sl ([.ref (adV i), .int (nI x)]) ++ List.replicate (2 - (lg_sl ([.ref (adV i), .int (nI x)])).length) Slot.unset).toArray = ls at hl ⊢
  have hl : lv_has ls 2 [(0, .ref (adV i)), (1, .int (nI x))] := hl
  have hn := (scL_ok i hi).1
  refine lv_iload_n hx hb dJ1_charAt_3b067_0 rfl (lv_at hl 1 rfl) ?_
  refine lv_aload_n hx hb dJ1_charAt_3b067_1 rfl (lv_at hl 0 rfl) ?_
  refine va_tlen (v := nI (scL.getD i 0)) hx hb (hsc.1.1 i hi).2.2.2 hS rfl dJ1_charAt_3b067_2 ?_
  have hF := rdF hS hA
  refine va_callv (va_runS (As := [.int (nI x), .int (nI (scL.getD i 0))]) (rest := []) ⟨hx, hb, hml, hown, hts⟩ (cJ0_checkIndex_df160_ok l adK adV x _ hxn hn s.heap.size) (va_cwS 2 hts (mGoodS goodR (List.mem_append_left _ (List.mem_of_getElem? (i := 37) (by decide +kernel))) (List.mem_append_left _ (List.mem_of_getElem? (i := 38) (by decide +kernel))) (List.mem_append_left _ (List.mem_of_getElem? (i := 13) (by decide +kernel))) (List.mem_append_left _ (List.mem_of_getElem? (i := 39) (by decide +kernel)))) rfl rfl rfl (by decide +kernel) ⟨Nat.le_of_ble_eq_true rfl, Nat.le_of_ble_eq_true rfl⟩) ⟨rdBlind, fun U hU hW => ⟨rfl, by rw [hU], hsc.at hS hF hU hW⟩⟩ rfl rfl hl.1 rfl (lv_room (Nat.le_of_ble_eq_true rfl)) dJ1_charAt_3b067_3 ⟨(by decide), (by decide)⟩) hS (fun q _ h => hF q h) hF (fun u t H1 locs ht hvm hpost hB hz1 hk1 hS => ?_)
  refine lv_aload_n hx hb dJ1_charAt_3b067_6 rfl (lv_at hl 0 rfl) ?_
  refine lv_iload_n hx hb dJ1_charAt_3b067_7 rfl (lv_at hl 1 rfl) ?_
  refine va_tb (v := .int ((scB.getD i []).getD x 0)) hx hb (hsc.1.1 i hi).2.2.2 hS (vp_in_nI hxn hn) (by rw [nI_clamp (by omega)]) dJ1_charAt_3b067_8 ?_
  refine lv_sipush (v := 255) hx hb dJ1_charAt_3b067_9 (by decide) ?_
  refine lv_iand hx hb dJ1_charAt_3b067_12 ?_
  refine lv_i2c (v := chI i x) hx hb dJ1_charAt_3b067_13 (sc_c2 _) ?_
  exact W.zret (v := chI i x) hx hb hr (sc_nar _) (fun t ht hW => ⟨⟨chI i x, (), rfl, rfl, trivial⟩, hS.F ht⟩) hS.2.2 dJ1_charAt_3b067_14
set_option maxHeartbeats 4000000 in
set_option maxRecDepth 100000 in
/-- charAt(x) -/
theorem cJ0_charAt_5068e_ok (l : Launch) (adK adV : Nat → Nat) (i x : Nat) (hi : i < 4) (hxn : x < scL.getD i 0) (sz : Nat) : Met l yJ0_charAt_5068e (.code yJ0_charAt_5068e cJ0_charAt_5068e 2 (some .char) :: wR) ({ frames := 3, cells := 0, slots := 0, locals := 120 } : Room) (rdP adK adV [.ref (adK i), .int (nI x)] sz) (va_Qi (fun (v : Int32) (_ : Unit) => v = chI i x) (fun _ _ => True) (va_A [] sz)) 0 0 (va_A [] sz) := by
  refine Met.ofW (cc := cJ0_charAt_5068e) (maxL := 2) (ret := (some .char)) (by decide +kernel) rfl ?_
  intro p e s m args below meth c s₁ B hml hv
  obtain ⟨rfl, hsz, hsc⟩ := hv
  have hx := B.exec
  have hb := B.bytes
  have hr := B.returns
  have hts := atoms_spec (ws := .code yJ0_charAt_5068e cJ0_charAt_5068e 2 (some .char) :: wR) B.pre
  have hown : s.vm.findClass RJ0 = some m.cls := findClass_of_methodNamed B.named
  have hlocks := B.notSynchronized
  subst hsz
  generalize hAe : va_A [] s.heap.size = A at hsc ⊢
  have hA : ∀ q : Nat, s.heap.size ≤ q → A q := fun q h => by rw [← hAe]; exact Or.inr h
  have hS : va_S A s.heap s.heap [] := va_S.rf
  have hl := lv_entry ([.ref (adK i), .int (nI x)]) (n := 2) (Nat.le_of_ble_eq_true rfl)
  rw [lg_entry_eq]
  generalize (lg_sl ([.ref (adK i), .int (nI x)]) ++ List.replicate (2 - (lg_sl ([.ref (adK i), .int (nI x)])).length) Slot.unset).toArray = ls at hl ⊢
  have hl : lv_has ls 2 [(0, .ref (adK i)), (1, .int (nI x))] := hl
  refine lv_aload_n hx hb dJ0_charAt_5068e_0 rfl (lv_at hl 0 rfl) ?_
  have hF := rdF hS hA
  refine va_calli (va_runV (As := []) (rest := []) ⟨hx, hb, hml, hown, hts⟩ (cJ0_isLatin1_aae02_ok l adK adV i hi s.heap.size) (cwV 0 hts (mGoodV goodR (List.mem_append_left _ (List.mem_of_getElem? (i := 29) (by decide +kernel))) (List.mem_append_left _ (List.mem_of_getElem? (i := 30) (by decide +kernel))) (List.mem_append_left _ (List.mem_of_getElem? (i := 31) (by decide +kernel))) (List.mem_append_left _ (List.mem_of_getElem? (i := 13) (by decide +kernel))) (List.mem_append_left _ (List.mem_of_getElem? (i := 32) (by decide +kernel)))) rfl rfl rfl (by decide +kernel) ⟨Nat.le_of_ble_eq_true rfl, Nat.le_of_ble_eq_true rfl⟩) ⟨rdBlind, vk_recv hsc.1 hi hS, fun U hU hW => ⟨rfl, by rw [hU], hsc.at hS hF hU hW⟩⟩ rfl rfl hl.1 rfl (lv_room (Nat.le_of_ble_eq_true rfl)) dJ0_charAt_5068e_1 ⟨(by decide), (by decide)⟩) hS (fun q _ h => hF q h) hF (fun r u t H1 locs ht hvm hpost hB hz1 hk1 hS => ?_)
  subst hpost
  refine lv_if_eq (tgt := 16) hx hb dJ0_charAt_5068e_4 (by decide) (fun z => absurd z (by decide)) (fun _ => ?_)
  refine lv_aload_n hx hb dJ0_charAt_5068e_7 rfl (lv_at hl 0 rfl) ?_
  refine vk_getf (o := "java/lang/String") (n := "value") (d := "[B") (v := .ref (adV i)) hx hb (hsc.1.1 i hi).2.2.1 hS hown (hts (.fieldLink RJ0 9 "java/lang/String" "value" "[B") (mIn (List.mem_append_left _ (List.mem_of_getElem? (i := 15) (by decide +kernel))))) (fun _ h9 => h9) dJ0_charAt_5068e_8 ?_
  refine lv_iload_n hx hb dJ0_charAt_5068e_11 rfl (lv_at hl 1 rfl) ?_
  have hF := rdF hS hA
  refine va_calli (va_runS (As := [.ref (adV i), .int (nI x)]) (rest := []) ⟨hx, hb, hml, hown, hts⟩ (cJ1_charAt_3b067_ok l adK adV i x hi hxn H1.size) (va_cwS 2 hts (mGoodS goodR (List.mem_append_left _ (List.mem_of_getElem? (i := 33) (by decide +kernel))) (List.mem_append_left _ (List.mem_of_getElem? (i := 34) (by decide +kernel))) (List.mem_append_left _ (List.mem_of_getElem? (i := 35) (by decide +kernel))) (List.mem_append_left _ (List.mem_of_getElem? (i := 36) (by decide +kernel)))) rfl rfl rfl (by decide +kernel) ⟨Nat.le_of_ble_eq_true rfl, Nat.le_of_ble_eq_true rfl⟩) ⟨rdBlind, fun U hU hW => ⟨rfl, by rw [hU], hsc.at hS hF hU hW⟩⟩ rfl rfl hl.1 rfl (lv_room (Nat.le_of_ble_eq_true rfl)) dJ0_charAt_5068e_12 ⟨(by decide), (by decide)⟩) hS (fun q _ h => hF q h) hF (fun r u t H1 locs ht hvm hpost hB hz1 hk1 hS => ?_)
  subst hpost
  exact W.zret (v := chI i x) hx hb hr (sc_nar _) (fun t ht hW => ⟨⟨chI i x, (), rfl, rfl, trivial⟩, hS.F ht⟩) hS.2.2 dJ0_charAt_5068e_15
set_option maxHeartbeats 4000000 in
set_option maxRecDepth 100000 in
/-- digit(text, x) -/
theorem cX9_digit_ok (l : Launch) (adK adV : Nat → Nat) (i x : Nat) (hi : i < 4) (hxn : x < scL.getD i 0) (sz : Nat) : Met l yX9_digit (.code yX9_digit cX9_digit 3 (some .int) :: wR) ({ frames := 4, cells := 0, slots := 0, locals := 160 } : Room) (rdP adK adV [.ref (adK i), .int (nI x)] sz) (va_Qi (fun (v : Int32) (_ : Unit) => v = dgI (chI i x)) (fun _ _ => True) (va_A [] sz)) 0 0 (va_A [] sz) := by
  refine Met.ofW (cc := cX9_digit) (maxL := 3) (ret := (some .int)) (by decide +kernel) rfl ?_
  intro p e s m args below meth c s₁ B hml hv
  obtain ⟨rfl, hsz, hsc⟩ := hv
  have hx := B.exec
  have hb := B.bytes
  have hr := B.returns
  have hts := atoms_spec (ws := .code yX9_digit cX9_digit 3 (some .int) :: wR) B.pre
  have hown : s.vm.findClass RX9 = some m.cls := findClass_of_methodNamed B.named
  have hlocks := B.notSynchronized
  subst hsz
  generalize hAe : va_A [] s.heap.size = A at hsc ⊢
  have hA : ∀ q : Nat, s.heap.size ≤ q → A q := fun q h => by rw [← hAe]; exact Or.inr h
  have hS : va_S A s.heap s.heap [] := va_S.rf
  have hl := lv_entry ([.ref (adK i), .int (nI x)]) (n := 3) (Nat.le_of_ble_eq_true rfl)
  rw [lg_entry_eq]
  generalize (lg_sl ([.ref (adK i), .int (nI x)]) ++ List.replicate (3 - (lg_sl ([.ref (adK i), .int (nI x)])).length) Slot.unset).toArray = ls at hl ⊢
  have hl : lv_has ls 3 [(0, .ref (adK i)), (1, .int (nI x))] := hl
  refine lv_aload_n hx hb dX9_digit_0 rfl (lv_at hl 0 rfl) ?_
  refine lv_iload_n hx hb dX9_digit_1 rfl (lv_at hl 1 rfl) ?_
  have hF := rdF hS hA
  refine va_calli (va_runV (As := [.int (nI x)]) (rest := []) ⟨hx, hb, hml, hown, hts⟩ (cJ0_charAt_5068e_ok l adK adV i x hi hxn s.heap.size) (cwV 1 hts (mGoodV goodR (List.mem_append_left _ (List.mem_of_getElem? (i := 25) (by decide +kernel))) (List.mem_append_left _ (List.mem_of_getElem? (i := 26) (by decide +kernel))) (List.mem_append_left _ (List.mem_of_getElem? (i := 27) (by decide +kernel))) (List.mem_append_left _ (List.mem_of_getElem? (i := 13) (by decide +kernel))) (List.mem_append_left _ (List.mem_of_getElem? (i := 28) (by decide +kernel)))) rfl rfl rfl (by decide +kernel) ⟨Nat.le_of_ble_eq_true rfl, Nat.le_of_ble_eq_true rfl⟩) ⟨rdBlind, vk_recv hsc.1 hi hS, fun U hU hW => ⟨rfl, by rw [hU], hsc.at hS hF hU hW⟩⟩ rfl rfl hl.1 rfl (lv_room (Nat.le_of_ble_eq_true rfl)) dX9_digit_2 ⟨(by decide), (by decide)⟩) hS (fun q _ h => hF q h) hF (fun r u t H1 locs ht hvm hpost hB hz1 hk1 hS => ?_)
  subst hpost
  refine lv_istore_n (lv' := [(2, .int (chI i x)), (0, .ref (adK i)), (1, .int (nI x))]) hx hb dX9_digit_5 rfl hl (by decide) rfl (fun ls hl => ?_)
  refine lv_iload_n hx hb dX9_digit_6 rfl (lv_at hl 0 rfl) ?_
  refine lv_bipush (v := 57) hx hb dX9_digit_7 (by decide) ?_
  refine lv_icmp_gt (tgt := 19) hx hb dX9_digit_9 (by decide) (fun z => ?_) (fun z => ?_)
  · refine lv_iload_n hx hb dX9_digit_19 rfl (lv_at hl 0 rfl) ?_
    refine lv_bipush (v := 65) hx hb dX9_digit_20 (by decide) ?_
    refine lv_isub hx hb dX9_digit_22 ?_
    refine lv_bipush (v := 10) hx hb dX9_digit_23 (by decide) ?_
    refine lv_iadd hx hb dX9_digit_25 ?_
    exact W.iret (v := chI i x - 65 + 10) hx hb hr (fun t ht hW => ⟨⟨_, (), rfl, by rw [dgI, if_neg (fun y => absurd (Int32.lt_iff_toInt_lt.mp z) (Int.not_lt.mpr (Int32.le_iff_toInt_le.mp y)))], trivial⟩, hS.F ht⟩) hS.2.2 dX9_digit_26
  · refine lv_iload_n hx hb dX9_digit_12 rfl (lv_at hl 0 rfl) ?_
    refine lv_bipush (v := 48) hx hb dX9_digit_13 (by decide) ?_
    refine lv_isub hx hb dX9_digit_15 ?_
    refine lv_goto (tgt := 26) hx hb dX9_digit_16 (by decide) ?_
    exact W.iret (v := chI i x - 48) hx hb hr (fun t ht hW => ⟨⟨_, (), rfl, by rw [dgI, if_pos (Int32.le_iff_toInt_le.mpr (Int.not_lt.mp fun y => z (Int32.lt_iff_toInt_lt.mpr y)))], trivial⟩, hS.F ht⟩) hS.2.2 dX9_digit_26
