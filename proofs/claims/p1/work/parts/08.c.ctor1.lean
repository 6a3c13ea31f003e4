/-! constructors of the class, leaves first -/
theorem mBlind0 {l1 : List Value} {sz : Nat} {D : va_G} {cl : List vw_C} {W0 : va_W} {tys : List (ClassId × FieldType)} : FrameBlind (va_Pc l1 (fun U => U.heap.size = sz ∧ va_P D cl W0 U.heap ∧ va_K D cl tys U ∧ va_D (fun _ => True) W0)) := fun a U g mk q => by
  obtain ⟨q0, q1, qP, qK, qD⟩ := q
  exact ⟨q0, q1, qP, va_K.moved (u := U) (U := U.calling g mk a) (Vm.Alike.refl U.vm) qK, qD⟩
set_option maxHeartbeats 4000000 in
set_option maxRecDepth 100000 in
/-- the row is kept -/
theorem cX0_init_ok (l : Launch) (D : va_G) (tc : Nat → ClassId) (q0 qa : Nat) (sz : Nat) : Met l yX0_init (.code yX0_init cX0_init 2 none :: wN) ({ frames := 1, cells := 0, slots := 0, locals := 60 } : Room) (va_Pc [.ref q0, .ref qa] (fun U => U.heap.size = sz ∧ va_P D vwCl [(q0, .inr (3, [.null]))] U.heap ∧ va_K D vwCl (mTy tc) U ∧ va_D (fun _ => True) [(q0, .inr (3, [.null]))])) (va_Qv (fun _ : Unit => True) (fun u t => match u with | () => va_P D vwCl [(q0, .inr (3, [.ref qa]))] t.heap ∧ va_D (va_A [(q0, .inr (3, [.null]))] sz) [(q0, .inr (3, [.ref qa]))]) (va_A [(q0, .inr (3, [.null]))] sz)) 0 0 (va_A [(q0, .inr (3, [.null]))] sz) := by
  refine Met.ofW (cc := cX0_init) (maxL := 2) (ret := none) (by decide +kernel) rfl ?_
  intro p e s m args below meth c s₁ B hml hv
  obtain ⟨rfl, hsz, hP, hK, hD0⟩ := hv
  have hx := B.exec
  have hb := B.bytes
  have hr := B.returns
  have hts := atoms_spec (ws := .code yX0_init cX0_init 2 none :: wN) B.pre
  have hown : s.vm.findClass RX0 = some m.cls := findClass_of_methodNamed B.named
  have hlocks := B.notSynchronized
  have hin : meth.name = "<init>" := (name_of_methodNamed B.named B.method).1
  subst hsz
  have hD := hD0.self (sz := s.heap.size)
  generalize hAe : va_A [(q0, .inr (3, [.null]))] s.heap.size = A at hD ⊢
  have hA : ∀ q : Nat, s.heap.size ≤ q → A q := fun q h => by rw [← hAe]; exact Or.inr h
  have hS : va_S A s.heap s.heap [] := va_S.rf
  have hl := lv_entry ([.ref q0, .ref qa]) (n := 2) (Nat.le_of_ble_eq_true rfl)
  rw [lg_entry_eq]
  generalize (lg_sl ([.ref q0, .ref qa]) ++ List.replicate (2 - (lg_sl ([.ref q0, .ref qa])).length) Slot.unset).toArray = ls at hl ⊢
  have hl : lv_has ls 2 [(0, .ref q0), (1, .ref qa)] := hl
  refine lv_aload_n hx hb dX0_init_0 rfl (lv_at hl 0 rfl) ?_
  refine W.objInit hx hb hown (hts (.methodLink RX0 3 objectInit) (mIn (List.mem_append_left _ (List.mem_of_getElem? (i := 61) (by decide +kernel))))) (hts (.instanceMethod objectInit) (mIn (List.mem_append_left _ (List.mem_of_getElem? (i := 2) (by decide +kernel))))) (hts (.code objectInit ⟨#[0xb1]⟩ 1 none) (mIn (List.mem_append_left _ (List.mem_of_getElem? (i := 3) (by decide +kernel))))) rfl (by rw [hml]; exact hl.1) rfl dX0_init_1 (Nat.le_of_ble_eq_true rfl) (Nat.le_of_ble_eq_true rfl) ?_
  refine W.eq (g2 := F0 m 4 ls []) rfl ?_
  refine lv_aload_n hx hb dX0_init_4 rfl (lv_at hl 0 rfl) ?_
  refine lv_aload_n hx hb dX0_init_5 rfl (lv_at hl 1 rfl) ?_
  refine va_putF (D := D) (ci := 3) (v := .ref qa) (ty := (.array .int)) (C := RX0) (T := TX0) (N := 1) hx hb hts (fun w h => mIn (inN_X0 w h)) tyX0 tyX0_ok nmX0 hown hK hP hD hS 0 rfl rfl 0 (by decide) (hts (.fieldLink RX0 9 "FlashBoard$Alu" "cells" "[I") (mIn (List.mem_append_right _ (mAt (i := 3) (by decide +kernel))))) (fun _ h9 => h9) rfl hin rfl (by decide +kernel) rfl rfl (Nat.le_of_ble_eq_true rfl) dX0_init_6 (fun H locs hP hD hS => ?_)
  have hP : va_P D vwCl [(q0, .inr (3, [.ref qa]))] H := hP
  have hD : va_D A [(q0, .inr (3, [.ref qa]))] := hD
  have hP9 := hP.sub (ws' := [(q0, .inr (3, [.ref qa]))]) [0] rfl
  have hD9 := hD.sub (ws' := [(q0, .inr (3, [.ref qa]))]) [0] (by decide) rfl
  refine W.widen (k := 0) (n := 0) (by decide) (by decide) ?_
  exact W.vret hx hb hr (fun t ht hW => ⟨⟨(), rfl, trivial, by rw [ht]; exact hP9, hD9⟩, hS.F ht⟩) hS.2.2 dX0_init_9
set_option maxHeartbeats 4000000 in
set_option maxRecDepth 100000 in
/-- the row is kept -/
theorem cX6_init_ok (l : Launch) (D : va_G) (tc : Nat → ClassId) (q0 qa : Nat) (sz : Nat) : Met l yX6_init (.code yX6_init cX6_init 2 none :: wN) ({ frames := 1, cells := 0, slots := 0, locals := 60 } : Room) (va_Pc [.ref q0, .ref qa] (fun U => U.heap.size = sz ∧ va_P D vwCl [(q0, .inr (9, [.null, .int 0]))] U.heap ∧ va_K D vwCl (mTy tc) U ∧ va_D (fun _ => True) [(q0, .inr (9, [.null, .int 0]))])) (va_Qv (fun _ : Unit => True) (fun u t => match u with | () => va_P D vwCl [(q0, .inr (9, [.ref qa, .int 0]))] t.heap ∧ va_D (va_A [(q0, .inr (9, [.null, .int 0]))] sz) [(q0, .inr (9, [.ref qa, .int 0]))]) (va_A [(q0, .inr (9, [.null, .int 0]))] sz)) 0 0 (va_A [(q0, .inr (9, [.null, .int 0]))] sz) := by
  refine Met.ofW (cc := cX6_init) (maxL := 2) (ret := none) (by decide +kernel) rfl ?_
  intro p e s m args below meth c s₁ B hml hv
  obtain ⟨rfl, hsz, hP, hK, hD0⟩ := hv
  have hx := B.exec
  have hb := B.bytes
  have hr := B.returns
  have hts := atoms_spec (ws := .code yX6_init cX6_init 2 none :: wN) B.pre
  have hown : s.vm.findClass RX6 = some m.cls := findClass_of_methodNamed B.named
  have hlocks := B.notSynchronized
  have hin : meth.name = "<init>" := (name_of_methodNamed B.named B.method).1
  subst hsz
  have hD := hD0.self (sz := s.heap.size)
  generalize hAe : va_A [(q0, .inr (9, [.null, .int 0]))] s.heap.size = A at hD ⊢
  have hA : ∀ q : Nat, s.heap.size ≤ q → A q := fun q h => by rw [← hAe]; exact Or.inr h
  have hS : va_S A s.heap s.heap [] := va_S.rf
  have hl := lv_entry ([.ref q0, .ref qa]) (n := 2) (Nat.le_of_ble_eq_true rfl)
  rw [lg_entry_eq]
  generalize (lg_sl ([.ref q0, .ref qa]) ++ List.replicate (2 - (lg_sl ([.ref q0, .ref qa])).length) Slot.unset).toArray = ls at hl ⊢
  have hl : lv_has ls 2 [(0, .ref q0), (1, .ref qa)] := hl
  refine lv_aload_n hx hb dX6_init_0 rfl (lv_at hl 0 rfl) ?_
  refine W.objInit hx hb hown (hts (.methodLink RX6 3 objectInit) (mIn (List.mem_append_left _ (List.mem_of_getElem? (i := 36) (by decide +kernel))))) (hts (.instanceMethod objectInit) (mIn (List.mem_append_left _ (List.mem_of_getElem? (i := 2) (by decide +kernel))))) (hts (.code objectInit ⟨#[0xb1]⟩ 1 none) (mIn (List.mem_append_left _ (List.mem_of_getElem? (i := 3) (by decide +kernel))))) rfl (by rw [hml]; exact hl.1) rfl dX6_init_1 (Nat.le_of_ble_eq_true rfl) (Nat.le_of_ble_eq_true rfl) ?_
  refine W.eq (g2 := F0 m 4 ls []) rfl ?_
  refine lv_aload_n hx hb dX6_init_4 rfl (lv_at hl 0 rfl) ?_
  refine lv_aload_n hx hb dX6_init_5 rfl (lv_at hl 1 rfl) ?_
  refine va_putF (D := D) (ci := 9) (v := .ref qa) (ty := (.array .int)) (C := RX6) (T := TX6) (N := 2) hx hb hts (fun w h => mIn (inN_X6 w h)) tyX6 tyX6_ok nmX6 hown hK hP hD hS 0 rfl rfl 0 (by decide) (hts (.fieldLink RX6 9 "FlashBoard$Timer" "cells" "[I") (mIn (List.mem_append_right _ (mAt (i := 413) (by decide +kernel))))) (fun _ h9 => h9) rfl hin rfl (by decide +kernel) rfl rfl (Nat.le_of_ble_eq_true rfl) dX6_init_6 (fun H locs hP hD hS => ?_)
  have hP : va_P D vwCl [(q0, .inr (9, [.ref qa, .int 0]))] H := hP
  have hD : va_D A [(q0, .inr (9, [.ref qa, .int 0]))] := hD
  have hP9 := hP.sub (ws' := [(q0, .inr (9, [.ref qa, .int 0]))]) [0] rfl
  have hD9 := hD.sub (ws' := [(q0, .inr (9, [.ref qa, .int 0]))]) [0] (by decide) rfl
  refine W.widen (k := 0) (n := 0) (by decide) (by decide) ?_
  exact W.vret hx hb hr (fun t ht hW => ⟨⟨(), rfl, trivial, by rw [ht]; exact hP9, hD9⟩, hS.F ht⟩) hS.2.2 dX6_init_9
set_option maxHeartbeats 4000000 in
set_option maxRecDepth 100000 in
/-- the row is kept -/
theorem cX7_init_ok (l : Launch) (D : va_G) (tc : Nat → ClassId) (q0 qa : Nat) (sz : Nat) : Met l yX7_init (.code yX7_init cX7_init 2 none :: wN) ({ frames := 1, cells := 0, slots := 0, locals := 60 } : Room) (va_Pc [.ref q0, .ref qa] (fun U => U.heap.size = sz ∧ va_P D vwCl [(q0, .inr (10, [.null, .int 0, .int 0]))] U.heap ∧ va_K D vwCl (mTy tc) U ∧ va_D (fun _ => True) [(q0, .inr (10, [.null, .int 0, .int 0]))])) (va_Qv (fun _ : Unit => True) (fun u t => match u with | () => va_P D vwCl [(q0, .inr (10, [.ref qa, .int 0, .int 0]))] t.heap ∧ va_D (va_A [(q0, .inr (10, [.null, .int 0, .int 0]))] sz) [(q0, .inr (10, [.ref qa, .int 0, .int 0]))]) (va_A [(q0, .inr (10, [.null, .int 0, .int 0]))] sz)) 0 0 (va_A [(q0, .inr (10, [.null, .int 0, .int 0]))] sz) := by
  refine Met.ofW (cc := cX7_init) (maxL := 2) (ret := none) (by decide +kernel) rfl ?_
  intro p e s m args below meth c s₁ B hml hv
  obtain ⟨rfl, hsz, hP, hK, hD0⟩ := hv
  have hx := B.exec
  have hb := B.bytes
  have hr := B.returns
  have hts := atoms_spec (ws := .code yX7_init cX7_init 2 none :: wN) B.pre
  have hown : s.vm.findClass RX7 = some m.cls := findClass_of_methodNamed B.named
  have hlocks := B.notSynchronized
  have hin : meth.name = "<init>" := (name_of_methodNamed B.named B.method).1
  subst hsz
  have hD := hD0.self (sz := s.heap.size)
  generalize hAe : va_A [(q0, .inr (10, [.null, .int 0, .int 0]))] s.heap.size = A at hD ⊢
  have hA : ∀ q : Nat, s.heap.size ≤ q → A q := fun q h => by rw [← hAe]; exact Or.inr h
  have hS : va_S A s.heap s.heap [] := va_S.rf
  have hl := lv_entry ([.ref q0, .ref qa]) (n := 2) (Nat.le_of_ble_eq_true rfl)
  rw [lg_entry_eq]
  generalize (lg_sl ([.ref q0, .ref qa]) ++ List.replicate (2 - (lg_sl ([.ref q0, .ref qa])).length) Slot.unset).toArray = ls at hl ⊢
  have hl : lv_has ls 2 [(0, .ref q0), (1, .ref qa)] := hl
  refine lv_aload_n hx hb dX7_init_0 rfl (lv_at hl 0 rfl) ?_
  refine W.objInit hx hb hown (hts (.methodLink RX7 3 objectInit) (mIn (List.mem_append_left _ (List.mem_of_getElem? (i := 49) (by decide +kernel))))) (hts (.instanceMethod objectInit) (mIn (List.mem_append_left _ (List.mem_of_getElem? (i := 2) (by decide +kernel))))) (hts (.code objectInit ⟨#[0xb1]⟩ 1 none) (mIn (List.mem_append_left _ (List.mem_of_getElem? (i := 3) (by decide +kernel))))) rfl (by rw [hml]; exact hl.1) rfl dX7_init_1 (Nat.le_of_ble_eq_true rfl) (Nat.le_of_ble_eq_true rfl) ?_
  refine W.eq (g2 := F0 m 4 ls []) rfl ?_
  refine lv_aload_n hx hb dX7_init_4 rfl (lv_at hl 0 rfl) ?_
  refine lv_aload_n hx hb dX7_init_5 rfl (lv_at hl 1 rfl) ?_
  refine va_putF (D := D) (ci := 10) (v := .ref qa) (ty := (.array .int)) (C := RX7) (T := TX7) (N := 3) hx hb hts (fun w h => mIn (inN_X7 w h)) tyX7 tyX7_ok nmX7 hown hK hP hD hS 0 rfl rfl 0 (by decide) (hts (.fieldLink RX7 9 "FlashBoard$Watchdog" "cells" "[I") (mIn (List.mem_append_right _ (mAt (i := 55) (by decide +kernel))))) (fun _ h9 => h9) rfl hin rfl (by decide +kernel) rfl rfl (Nat.le_of_ble_eq_true rfl) dX7_init_6 (fun H locs hP hD hS => ?_)
  have hP : va_P D vwCl [(q0, .inr (10, [.ref qa, .int 0, .int 0]))] H := hP
  have hD : va_D A [(q0, .inr (10, [.ref qa, .int 0, .int 0]))] := hD
  have hP9 := hP.sub (ws' := [(q0, .inr (10, [.ref qa, .int 0, .int 0]))]) [0] rfl
  have hD9 := hD.sub (ws' := [(q0, .inr (10, [.ref qa, .int 0, .int 0]))]) [0] (by decide) rfl
  refine W.widen (k := 0) (n := 0) (by decide) (by decide) ?_
  exact W.vret hx hb hr (fun t ht hW => ⟨⟨(), rfl, trivial, by rw [ht]; exact hP9, hD9⟩, hS.F ht⟩) hS.2.2 dX7_init_9
set_option maxHeartbeats 4000000 in
set_option maxRecDepth 100000 in
/-- two rows are made -/
theorem cX4_init_ok (l : Launch) (D : va_G) (tc : Nat → ClassId) (q0 qa : Nat) (sz : Nat) : Met l yX4_init (.code yX4_init cX4_init 2 none :: wN) ({ frames := 1, cells := 2, slots := 1300, locals := 60 } : Room) (va_Pc [.ref q0, .ref qa] (fun U => U.heap.size = sz ∧ va_P D vwCl [(q0, .inr (7, [.null, .null, .int 0, .int 0, .null, .int 0, .int 0, .int 0, .int 0, .int 0, .int 0, .int 0, .int 0, .int 0, .int 0]))] U.heap ∧ va_K D vwCl (mTy tc) U ∧ va_D (fun _ => True) [(q0, .inr (7, [.null, .null, .int 0, .int 0, .null, .int 0, .int 0, .int 0, .int 0, .int 0, .int 0, .int 0, .int 0, .int 0, .int 0]))])) (va_Qv (fun _ : Nat × Nat => True) (fun u t => match u with | (q1, q2) => va_P D vwCl [(q0, .inr (7, [.ref qa, .ref q1, .int 0, .int 0, .ref q2, .int 0, .int 0, .int 0, .int 0, .int 0, .int 0, .int 0, .int 0, .int 0, .int 0])), (q1, .inl (tc 0, 300, .inl (fun _ => 0))), (q2, .inl (tc 0, 1000, .inl (fun _ => 0)))] t.heap ∧ va_D (va_A [(q0, .inr (7, [.null, .null, .int 0, .int 0, .null, .int 0, .int 0, .int 0, .int 0, .int 0, .int 0, .int 0, .int 0, .int 0, .int 0]))] sz) [(q0, .inr (7, [.ref qa, .ref q1, .int 0, .int 0, .ref q2, .int 0, .int 0, .int 0, .int 0, .int 0, .int 0, .int 0, .int 0, .int 0, .int 0])), (q1, .inl (tc 0, 300, .inl (fun _ => 0))), (q2, .inl (tc 0, 1000, .inl (fun _ => 0)))]) (va_A [(q0, .inr (7, [.null, .null, .int 0, .int 0, .null, .int 0, .int 0, .int 0, .int 0, .int 0, .int 0, .int 0, .int 0, .int 0, .int 0]))] sz)) 2 1300 (va_A [(q0, .inr (7, [.null, .null, .int 0, .int 0, .null, .int 0, .int 0, .int 0, .int 0, .int 0, .int 0, .int 0, .int 0, .int 0, .int 0]))] sz) := by
  refine Met.ofW (cc := cX4_init) (maxL := 2) (ret := none) (by decide +kernel) rfl ?_
  intro p e s m args below meth c s₁ B hml hv
  obtain ⟨rfl, hsz, hP, hK, hD0⟩ := hv
  have hx := B.exec
  have hb := B.bytes
  have hr := B.returns
  have hts := atoms_spec (ws := .code yX4_init cX4_init 2 none :: wN) B.pre
  have hown : s.vm.findClass RX4 = some m.cls := findClass_of_methodNamed B.named
  have hlocks := B.notSynchronized
  have hin : meth.name = "<init>" := (name_of_methodNamed B.named B.method).1
  subst hsz
  have hD := hD0.self (sz := s.heap.size)
  generalize hAe : va_A [(q0, .inr (7, [.null, .null, .int 0, .int 0, .null, .int 0, .int 0, .int 0, .int 0, .int 0, .int 0, .int 0, .int 0, .int 0, .int 0]))] s.heap.size = A at hD ⊢
  have hA : ∀ q : Nat, s.heap.size ≤ q → A q := fun q h => by rw [← hAe]; exact Or.inr h
  have hS : va_S A s.heap s.heap [] := va_S.rf
  have hl := lv_entry ([.ref q0, .ref qa]) (n := 2) (Nat.le_of_ble_eq_true rfl)
  rw [lg_entry_eq]
  generalize (lg_sl ([.ref q0, .ref qa]) ++ List.replicate (2 - (lg_sl ([.ref q0, .ref qa])).length) Slot.unset).toArray = ls at hl ⊢
  have hl : lv_has ls 2 [(0, .ref q0), (1, .ref qa)] := hl
  refine lv_aload_n hx hb dX4_init_0 rfl (lv_at hl 0 rfl) ?_
  refine W.objInit hx hb hown (hts (.methodLink RX4 3 objectInit) (mIn (List.mem_append_left _ (List.mem_of_getElem? (i := 40) (by decide +kernel))))) (hts (.instanceMethod objectInit) (mIn (List.mem_append_left _ (List.mem_of_getElem? (i := 2) (by decide +kernel))))) (hts (.code objectInit ⟨#[0xb1]⟩ 1 none) (mIn (List.mem_append_left _ (List.mem_of_getElem? (i := 3) (by decide +kernel))))) rfl (by rw [hml]; exact hl.1) rfl dX4_init_1 (Nat.le_of_ble_eq_true rfl) (Nat.le_of_ble_eq_true rfl) ?_
  refine W.eq (g2 := F0 m 4 ls []) rfl ?_
  refine lv_aload_n hx hb dX4_init_4 rfl (lv_at hl 0 rfl) ?_
  refine lv_aload_n hx hb dX4_init_5 rfl (lv_at hl 1 rfl) ?_
  refine va_putF (D := D) (ci := 7) (v := .ref qa) (ty := (.array .int)) (C := RX4) (T := TX4) (N := 15) hx hb hts (fun w h => mIn (inN_X4 w h)) tyX4 tyX4_ok nmX4 hown hK hP hD hS 0 rfl rfl 0 (by decide) (hts (.fieldLink RX4 9 "FlashBoard$Line" "cells" "[I") (mIn (List.mem_append_right _ (mAt (i := 58) (by decide +kernel))))) (fun _ h9 => h9) rfl hin rfl (by decide +kernel) rfl rfl (Nat.le_of_ble_eq_true rfl) dX4_init_6 (fun H locs hP hD hS => ?_)
  have hP : va_P D vwCl [(q0, .inr (7, [.ref qa, .null, .int 0, .int 0, .null, .int 0, .int 0, .int 0, .int 0, .int 0, .int 0, .int 0, .int 0, .int 0, .int 0]))] H := hP
  have hD : va_D A [(q0, .inr (7, [.ref qa, .null, .int 0, .int 0, .null, .int 0, .int 0, .int 0, .int 0, .int 0, .int 0, .int 0, .int 0, .int 0, .int 0]))] := hD
  refine lv_aload_n hx hb dX4_init_9 rfl (lv_at hl 0 rfl) ?_
  refine lv_sipush (v := 300) hx hb dX4_init_10 (by decide) ?_
  refine vNewI (N := 300) hx hb (hts (.arrayClass .int) (mIn (List.mem_append_left _ (List.mem_of_getElem? (i := 12) (by decide +kernel))))) hK hP hD hS hA (by decide) (by decide) (by decide) (by decide) (by decide) dX4_init_13 (fun q1 H hP hD hS => ?_)
  have hP : va_P D vwCl [(q0, .inr (7, [.ref qa, .null, .int 0, .int 0, .null, .int 0, .int 0, .int 0, .int 0, .int 0, .int 0, .int 0, .int 0, .int 0, .int 0])), (q1, .inl (tc 0, 300, .inl (fun _ => 0)))] H := hP
  have hD : va_D A [(q0, .inr (7, [.ref qa, .null, .int 0, .int 0, .null, .int 0, .int 0, .int 0, .int 0, .int 0, .int 0, .int 0, .int 0, .int 0, .int 0])), (q1, .inl (tc 0, 300, .inl (fun _ => 0)))] := hD
  refine W.widen (k := 1) (n := 300) (by decide) (by decide) ?_
  refine va_putF (D := D) (ci := 7) (v := .ref q1) (ty := (.array .int)) (C := RX4) (T := TX4) (N := 15) hx hb hts (fun w h => mIn (inN_X4 w h)) tyX4 tyX4_ok nmX4 hown hK hP hD hS 0 rfl rfl 1 (by decide) (hts (.fieldLink RX4 15 "FlashBoard$Line" "hostQueue" "[I") (mIn (List.mem_append_right _ (mAt (i := 376) (by decide +kernel))))) (fun _ h9 => h9) rfl hin rfl (by decide +kernel) rfl rfl (Nat.le_of_ble_eq_true rfl) dX4_init_15 (fun H locs hP hD hS => ?_)
  have hP : va_P D vwCl [(q0, .inr (7, [.ref qa, .ref q1, .int 0, .int 0, .null, .int 0, .int 0, .int 0, .int 0, .int 0, .int 0, .int 0, .int 0, .int 0, .int 0])), (q1, .inl (tc 0, 300, .inl (fun _ => 0)))] H := hP
  have hD : va_D A [(q0, .inr (7, [.ref qa, .ref q1, .int 0, .int 0, .null, .int 0, .int 0, .int 0, .int 0, .int 0, .int 0, .int 0, .int 0, .int 0, .int 0])), (q1, .inl (tc 0, 300, .inl (fun _ => 0)))] := hD
  refine lv_aload_n hx hb dX4_init_18 rfl (lv_at hl 0 rfl) ?_
  refine lv_sipush (v := 1000) hx hb dX4_init_19 (by decide) ?_
  refine vNewI (N := 1000) hx hb (hts (.arrayClass .int) (mIn (List.mem_append_left _ (List.mem_of_getElem? (i := 12) (by decide +kernel))))) hK hP hD hS hA (by decide) (by decide) (by decide) (by decide) (by decide) dX4_init_22 (fun q2 H hP hD hS => ?_)
  have hP : va_P D vwCl [(q0, .inr (7, [.ref qa, .ref q1, .int 0, .int 0, .null, .int 0, .int 0, .int 0, .int 0, .int 0, .int 0, .int 0, .int 0, .int 0, .int 0])), (q1, .inl (tc 0, 300, .inl (fun _ => 0))), (q2, .inl (tc 0, 1000, .inl (fun _ => 0)))] H := hP
  have hD : va_D A [(q0, .inr (7, [.ref qa, .ref q1, .int 0, .int 0, .null, .int 0, .int 0, .int 0, .int 0, .int 0, .int 0, .int 0, .int 0, .int 0, .int 0])), (q1, .inl (tc 0, 300, .inl (fun _ => 0))), (q2, .inl (tc 0, 1000, .inl (fun _ => 0)))] := hD
  refine W.widen (k := 2) (n := 1300) (by decide) (by decide) ?_
  refine va_putF (D := D) (ci := 7) (v := .ref q2) (ty := (.array .int)) (C := RX4) (T := TX4) (N := 15) hx hb hts (fun w h => mIn (inN_X4 w h)) tyX4 tyX4_ok nmX4 hown hK hP hD hS 0 rfl rfl 4 (by decide) (hts (.fieldLink RX4 18 "FlashBoard$Line" "kept" "[I") (mIn (List.mem_append_right _ (mAt (i := 371) (by decide +kernel))))) (fun _ h9 => h9) rfl hin rfl (by decide +kernel) rfl rfl (Nat.le_of_ble_eq_true rfl) dX4_init_24 (fun H locs hP hD hS => ?_)
  have hP : va_P D vwCl [(q0, .inr (7, [.ref qa, .ref q1, .int 0, .int 0, .ref q2, .int 0, .int 0, .int 0, .int 0, .int 0, .int 0, .int 0, .int 0, .int 0, .int 0])), (q1, .inl (tc 0, 300, .inl (fun _ => 0))), (q2, .inl (tc 0, 1000, .inl (fun _ => 0)))] H := hP
  have hD : va_D A [(q0, .inr (7, [.ref qa, .ref q1, .int 0, .int 0, .ref q2, .int 0, .int 0, .int 0, .int 0, .int 0, .int 0, .int 0, .int 0, .int 0, .int 0])), (q1, .inl (tc 0, 300, .inl (fun _ => 0))), (q2, .inl (tc 0, 1000, .inl (fun _ => 0)))] := hD
  have hP9 := hP.sub (ws' := [(q0, .inr (7, [.ref qa, .ref q1, .int 0, .int 0, .ref q2, .int 0, .int 0, .int 0, .int 0, .int 0, .int 0, .int 0, .int 0, .int 0, .int 0])), (q1, .inl (tc 0, 300, .inl (fun _ => 0))), (q2, .inl (tc 0, 1000, .inl (fun _ => 0)))]) [0, 1, 2] rfl
  have hD9 := hD.sub (ws' := [(q0, .inr (7, [.ref qa, .ref q1, .int 0, .int 0, .ref q2, .int 0, .int 0, .int 0, .int 0, .int 0, .int 0, .int 0, .int 0, .int 0, .int 0])), (q1, .inl (tc 0, 300, .inl (fun _ => 0))), (q2, .inl (tc 0, 1000, .inl (fun _ => 0)))]) [0, 1, 2] (by decide) rfl
  refine W.widen (k := 2) (n := 1300) (by decide) (by decide) ?_
  exact W.vret hx hb hr (fun t ht hW => ⟨⟨(q1, q2), rfl, trivial, by rw [ht]; exact hP9, hD9⟩, hS.F ht⟩) hS.2.2 dX4_init_27
set_option maxHeartbeats 4000000 in
set_option maxRecDepth 100000 in
/-- a row is made, all 255 -/
theorem cX2_init_ok (l : Launch) (D : va_G) (tc : Nat → ClassId) (q0 qa : Nat) (sz : Nat) : Met l yX2_init (.code yX2_init cX2_init 2 none :: wN) ({ frames := 1, cells := 1, slots := 256, locals := 60 } : Room) (va_Pc [.ref q0, .ref qa] (fun U => U.heap.size = sz ∧ va_P D vwCl [(q0, .inr (5, [.null, .null, .int 0, .int 0]))] U.heap ∧ va_K D vwCl (mTy tc) U ∧ va_D (fun _ => True) [(q0, .inr (5, [.null, .null, .int 0, .int 0]))])) (va_Qv (fun _ : Nat => True) (fun u t => match u with | q1 => va_P D vwCl [(q0, .inr (5, [.ref qa, .ref q1, .int 0, .int 0])), (q1, .inl (tc 0, 256, .inl (fun k => if k < 256 then 255 else 0)))] t.heap ∧ va_D (va_A [(q0, .inr (5, [.null, .null, .int 0, .int 0]))] sz) [(q0, .inr (5, [.ref qa, .ref q1, .int 0, .int 0])), (q1, .inl (tc 0, 256, .inl (fun k => if k < 256 then 255 else 0)))]) (va_A [(q0, .inr (5, [.null, .null, .int 0, .int 0]))] sz)) 1 256 (va_A [(q0, .inr (5, [.null, .null, .int 0, .int 0]))] sz) := by
  refine Met.ofW (cc := cX2_init) (maxL := 2) (ret := none) (by decide +kernel) rfl ?_
  intro p e s m args below meth c s₁ B hml hv
  obtain ⟨rfl, hsz, hP, hK, hD0⟩ := hv
  have hx := B.exec
  have hb := B.bytes
  have hr := B.returns
  have hts := atoms_spec (ws := .code yX2_init cX2_init 2 none :: wN) B.pre
  have hown : s.vm.findClass RX2 = some m.cls := findClass_of_methodNamed B.named
  have hlocks := B.notSynchronized
  have hin : meth.name = "<init>" := (name_of_methodNamed B.named B.method).1
  subst hsz
  have hD := hD0.self (sz := s.heap.size)
  generalize hAe : va_A [(q0, .inr (5, [.null, .null, .int 0, .int 0]))] s.heap.size = A at hD ⊢
  have hA : ∀ q : Nat, s.heap.size ≤ q → A q := fun q h => by rw [← hAe]; exact Or.inr h
  have hS : va_S A s.heap s.heap [] := va_S.rf
  have hl := lv_entry ([.ref q0, .ref qa]) (n := 2) (Nat.le_of_ble_eq_true rfl)
  rw [lg_entry_eq]
  generalize (lg_sl ([.ref q0, .ref qa]) ++ List.replicate (2 - (lg_sl ([.ref q0, .ref qa])).length) Slot.unset).toArray = ls at hl ⊢
  have hl : lv_has ls 2 [(0, .ref q0), (1, .ref qa)] := hl
  refine lv_aload_n hx hb dX2_init_0 rfl (lv_at hl 0 rfl) ?_
  refine W.objInit hx hb hown (hts (.methodLink RX2 3 objectInit) (mIn (List.mem_append_left _ (List.mem_of_getElem? (i := 44) (by decide +kernel))))) (hts (.instanceMethod objectInit) (mIn (List.mem_append_left _ (List.mem_of_getElem? (i := 2) (by decide +kernel))))) (hts (.code objectInit ⟨#[0xb1]⟩ 1 none) (mIn (List.mem_append_left _ (List.mem_of_getElem? (i := 3) (by decide +kernel))))) rfl (by rw [hml]; exact hl.1) rfl dX2_init_1 (Nat.le_of_ble_eq_true rfl) (Nat.le_of_ble_eq_true rfl) ?_
  refine W.eq (g2 := F0 m 4 ls []) rfl ?_
  refine lv_aload_n hx hb dX2_init_4 rfl (lv_at hl 0 rfl) ?_
  refine lv_aload_n hx hb dX2_init_5 rfl (lv_at hl 1 rfl) ?_
  refine va_putF (D := D) (ci := 5) (v := .ref qa) (ty := (.array .int)) (C := RX2) (T := TX2) (N := 4) hx hb hts (fun w h => mIn (inN_X2 w h)) tyX2 tyX2_ok nmX2 hown hK hP hD hS 0 rfl rfl 0 (by decide) (hts (.fieldLink RX2 9 "FlashBoard$Eeprom" "cells" "[I") (mIn (List.mem_append_right _ (mAt (i := 42) (by decide +kernel))))) (fun _ h9 => h9) rfl hin rfl (by decide +kernel) rfl rfl (Nat.le_of_ble_eq_true rfl) dX2_init_6 (fun H locs hP hD hS => ?_)
  have hP : va_P D vwCl [(q0, .inr (5, [.ref qa, .null, .int 0, .int 0]))] H := hP
  have hD : va_D A [(q0, .inr (5, [.ref qa, .null, .int 0, .int 0]))] := hD
  refine lv_aload_n hx hb dX2_init_9 rfl (lv_at hl 0 rfl) ?_
  refine lv_sipush (v := 256) hx hb dX2_init_10 (by decide) ?_
  refine vNewI (N := 256) hx hb (hts (.arrayClass .int) (mIn (List.mem_append_left _ (List.mem_of_getElem? (i := 12) (by decide +kernel))))) hK hP hD hS hA (by decide) (by decide) (by decide) (by decide) (by decide) dX2_init_13 (fun q1 H hP hD hS => ?_)
  have hP : va_P D vwCl [(q0, .inr (5, [.ref qa, .null, .int 0, .int 0])), (q1, .inl (tc 0, 256, .inl (fun _ => 0)))] H := hP
  have hD : va_D A [(q0, .inr (5, [.ref qa, .null, .int 0, .int 0])), (q1, .inl (tc 0, 256, .inl (fun _ => 0)))] := hD
  refine W.widen (k := 1) (n := 256) (by decide) (by decide) ?_
  refine va_putF (D := D) (ci := 5) (v := .ref q1) (ty := (.array .int)) (C := RX2) (T := TX2) (N := 4) hx hb hts (fun w h => mIn (inN_X2 w h)) tyX2 tyX2_ok nmX2 hown hK hP hD hS 0 rfl rfl 1 (by decide) (hts (.fieldLink RX2 15 "FlashBoard$Eeprom" "bytes" "[I") (mIn (List.mem_append_right _ (mAt (i := 44) (by decide +kernel))))) (fun _ h9 => h9) rfl hin rfl (by decide +kernel) rfl rfl (Nat.le_of_ble_eq_true rfl) dX2_init_15 (fun H locs hP hD hS => ?_)
  have hP : va_P D vwCl [(q0, .inr (5, [.ref qa, .ref q1, .int 0, .int 0])), (q1, .inl (tc 0, 256, .inl (fun _ => 0)))] H := hP
  have hD : va_D A [(q0, .inr (5, [.ref qa, .ref q1, .int 0, .int 0])), (q1, .inl (tc 0, 256, .inl (fun _ => 0)))] := hD
  refine lv_aload_n hx hb dX2_init_18 rfl (lv_at hl 0 rfl) ?_
  refine va_get (D := D) (ci := 5) (v := .ref q1) (C := RX2) (T := TX2) (N := 4) hx hb hts (fun w h => mIn (inN_X2 w h)) hown hK hP 0 rfl rfl 1 (by decide) (hts (.fieldLink RX2 15 "FlashBoard$Eeprom" "bytes" "[I") (mIn (List.mem_append_right _ (mAt (i := 44) (by decide +kernel))))) (fun _ h9 => h9) rfl dX2_init_19 ?_
  refine lv_sipush (v := 255) hx hb dX2_init_22 (by decide) ?_
  have hP := hP.sub (ws' := [(q1, .inl (tc 0, 256, .inl (fun _ => 0))), (q0, .inr (5, [.ref qa, .ref q1, .int 0, .int 0]))]) [1, 0] rfl
  have hD := hD.sub (ws' := [(q1, .inl (tc 0, 256, .inl (fun _ => 0))), (q0, .inr (5, [.ref qa, .ref q1, .int 0, .int 0]))]) [1, 0] (by decide) rfl
  refine vFill (c0 := .code yX2_init cX2_init 2 none) (N := 256) (by decide) goodN hx hb hml hown hts hK (List.mem_append_left _ (List.mem_of_getElem? (i := 45) (by decide +kernel))) (List.mem_append_right _ (mAt (i := 396) (by decide +kernel))) (List.mem_append_right _ (mAt (i := 181) (by decide +kernel))) (List.mem_append_right _ (mAt (i := 389) (by decide +kernel))) ⟨Nat.le_of_ble_eq_true rfl, Nat.le_of_ble_eq_true rfl⟩ hl.1 (Nat.le_of_ble_eq_true rfl) dX2_init_25 (by decide) (by decide) hP hD hS hA (fun H locs hP hD hS => ?_)
  have hP : va_P D vwCl [(q1, .inl (tc 0, 256, .inl (fun k => if k < 256 then 255 else 0))), (q0, .inr (5, [.ref qa, .ref q1, .int 0, .int 0]))] H := hP
  have hD : va_D A [(q1, .inl (tc 0, 256, .inl (fun k => if k < 256 then 255 else 0))), (q0, .inr (5, [.ref qa, .ref q1, .int 0, .int 0]))] := hD
  have hP9 := hP.sub (ws' := [(q0, .inr (5, [.ref qa, .ref q1, .int 0, .int 0])), (q1, .inl (tc 0, 256, .inl (fun k => if k < 256 then 255 else 0)))]) [1, 0] rfl
  have hD9 := hD.sub (ws' := [(q0, .inr (5, [.ref qa, .ref q1, .int 0, .int 0])), (q1, .inl (tc 0, 256, .inl (fun k => if k < 256 then 255 else 0)))]) [1, 0] (by decide) rfl
  refine W.widen (k := 1) (n := 256) (by decide) (by decide) ?_
  exact W.vret hx hb hr (fun t ht hW => ⟨⟨q1, rfl, trivial, by rw [ht]; exact hP9, hD9⟩, hS.F ht⟩) hS.2.2 dX2_init_28
