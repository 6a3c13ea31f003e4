/-! the law's cases, one by one -/
set_option maxHeartbeats 4000000 in
set_option maxRecDepth 100000 in
theorem case_0 {p : Program} {l : Launch} {e : Env} {s : State} {m : MethodId} {below : List Frame} {meth : Method} {c : Code} {H : Heap} {locs : List Loc} {cells slots : Nat} {Q : State → Prop} {D : va_G} {tc : Nat → ClassId} {cA : ClassId} {adC adM : Nat → Nat} {o b L i : Nat} {xs : Nat → Int32} {ls : Array Slot} {N : Int} (hls0 : l.stackTraces = false) (F : lFix p s m b c L xs D tc cA) (hi : i + 7 ≤ L) (hL : L ≤ 3584) (hN : N + 400000 ≤ 300000000) (hcl : cells + 1 ≤ 601024) (hsl : slots + 6 ≤ 7293034) (hst : lSt D tc adC adM cA o b i s N H locs ls)
    (kk : ∀ (H : Heap) (locs : List Loc) (ls : Array Slot), lSt D tc adC adM cA o b i s (N + 400000) H locs ls → W p l e room_1 s m #[Value.ref b] below meth c H locs (cells + 1) (slots + 6) Q (F0 m 636 ls [])) : W p l e room_1 s m #[Value.ref b] below meth c H locs cells slots Q (F0 m 124 ls []) := by
  obtain ⟨hx, hb, hml, hown, hts, hK, hK2, hX, hbl, hTX⟩ := id F
  have hbA : ¬ (fun q : Nat => s.heap.size ≤ q) b := Nat.not_le.mpr hbl
  obtain ⟨fC, gC, fM, gM, w, fc, fr, n, hl, hP, hD, hS, hc, hr, h70, h2, hn⟩ := hst
  refine lv_aload_n hx hb dL_law_124 rfl (lv_at hl 1 rfl) ?_
  refine lCallC (bytes := cX8_step) (mx := 1) (ret := (some .int)) (rm := rmX8_step) (av := []) (rest := []) (n := 0) (K := fun r f1 g1 => (∃ y, r = some (.inl y)) ∧ cI (n + 2) 0 fc f1 g1) (metX8_step l D adC tc) (sfX8_step n 0 fc fC gC _ (by omega) hc (fun y f1 g1 _ h => ⟨⟨y, rfl⟩, h⟩)) F (lGoodV goodC lA_C (lA_L0 _ (List.mem_of_getElem? (i := 14) (by decide +kernel))) (lA_L0 _ (List.mem_of_getElem? (i := 15) (by decide +kernel))) (lA_L0 _ (List.mem_of_getElem? (i := 16) (by decide +kernel))) (lA_L0 _ (List.mem_of_getElem? (i := 2) (by decide +kernel))) (lA_L0 _ (List.mem_of_getElem? (i := 17) (by decide +kernel))) rfl) rfl rfl rfl (by decide +kernel) ⟨by decide, by decide⟩ rfl hl.1 (Nat.le_of_ble_eq_true rfl) dL_law_125 (Nat.le_of_succ_le hcl) (Nat.le_trans (Nat.le_add_right _ 6) hsl) hP hD hS (fun r fC gC H locs hk hP hD hS => ?_)
  obtain ⟨⟨y, rfl⟩, hc⟩ := hk
  refine lv_pop hx hb dL_law_128 rfl ?_
  refine lv_aload_n hx hb dL_law_129 rfl (lv_at hl 2 rfl) ?_
  refine lCallM (bytes := cX9_step) (mx := 1) (ret := (some .int)) (rm := rmX9_step) (av := []) (rest := []) (n := 0) (K := fun r f1 g1 => (∃ y, r = some (.inl y)) ∧ rI (n + 2) 8000 fr f1 g1) (metX9_step l D adM tc) (sfX9_step n 0 fr fM gM _ (by omega) hr (fun y f1 g1 _ h => ⟨⟨y, rfl⟩, h⟩)) F (lGoodV goodM lA_M (lA_L0 _ (List.mem_of_getElem? (i := 18) (by decide +kernel))) (lA_L0 _ (List.mem_of_getElem? (i := 19) (by decide +kernel))) (lA_L0 _ (List.mem_of_getElem? (i := 20) (by decide +kernel))) (lA_L0 _ (List.mem_of_getElem? (i := 5) (by decide +kernel))) (lA_L0 _ (List.mem_of_getElem? (i := 21) (by decide +kernel))) rfl) rfl rfl rfl (by decide +kernel) ⟨by decide, by decide⟩ rfl hl.1 (Nat.le_of_ble_eq_true rfl) dL_law_130 (Nat.le_of_succ_le hcl) (Nat.le_trans (Nat.le_add_right _ 6) hsl) hP hD hS (fun r fM gM H locs hk hP hD hS => ?_)
  obtain ⟨⟨y, rfl⟩, hr⟩ := hk
  refine lv_pop hx hb dL_law_133 rfl ?_
  refine lv_goto (tgt := 636) hx hb dL_law_134 (by decide) ?_
  refine W.widen (k := cells + 1) (n := slots + 6) (by omega) (by omega) ?_
  exact kk H locs ls ⟨fC, gC, fM, gM, w, fc, fr, (n + 2), lv_sub hl [0, 1, 2, 3, 4] rfl, hP, hD, hS, hc, hr, h70, h2, by omega⟩
set_option maxHeartbeats 4000000 in
set_option maxRecDepth 100000 in
theorem case_1 {p : Program} {l : Launch} {e : Env} {s : State} {m : MethodId} {below : List Frame} {meth : Method} {c : Code} {H : Heap} {locs : List Loc} {cells slots : Nat} {Q : State → Prop} {D : va_G} {tc : Nat → ClassId} {cA : ClassId} {adC adM : Nat → Nat} {o b L i : Nat} {xs : Nat → Int32} {ls : Array Slot} {N : Int} (hls0 : l.stackTraces = false) (F : lFix p s m b c L xs D tc cA) (hi : i + 7 ≤ L) (hL : L ≤ 3584) (hN : N + 400000 ≤ 300000000) (hcl : cells + 1 ≤ 601024) (hsl : slots + 6 ≤ 7293034) (hst : lSt D tc adC adM cA o b i s N H locs ls)
    (kk : ∀ (H : Heap) (locs : List Loc) (ls : Array Slot), lSt D tc adC adM cA o b i s (N + 400000) H locs ls → W p l e room_1 s m #[Value.ref b] below meth c H locs (cells + 1) (slots + 6) Q (F0 m 636 ls [])) : W p l e room_1 s m #[Value.ref b] below meth c H locs cells slots Q (F0 m 137 ls []) := by
  obtain ⟨hx, hb, hml, hown, hts, hK, hK2, hX, hbl, hTX⟩ := id F
  have hbA : ¬ (fun q : Nat => s.heap.size ≤ q) b := Nat.not_le.mpr hbl
  obtain ⟨fC, gC, fM, gM, w, fc, fr, n, hl, hP, hD, hS, hc, hr, h70, h2, hn⟩ := hst
  refine lv_aload_n hx hb dL_law_137 rfl (lv_at hl 1 rfl) ?_
  refine lv_aload_n hx hb dL_law_138 rfl (lv_at hl 0 rfl) ?_
  refine lv_iload hx hb dL_law_139 (lv_at hl 4 rfl) ?_
  refine lv_iconst (v := 1) hx hb dL_law_141 (by decide) ?_
  refine lv_iadd hx hb dL_law_142 ?_
  rw [show nI i + (1 : Int32) = nI (i + 1) from nI_add i 1]
  refine va_sld hx hb hX hbl hbA hS (vp_in_nI (n := i + 1) (N := L) (by omega) (by omega)) dL_law_143 ?_
  rw [nI_clamp (show i + 1 < 2 ^ 31 by omega)]
  refine lv_aload_n hx hb dL_law_144 rfl (lv_at hl 3 rfl) ?_
  obtain ⟨sa, hT⟩ := hTX (39, "n is not 1 .. 5000", "java/lang/IllegalArgumentException") (by decide +kernel)
  refine lCallH (hh := [(0, 9, 12, 13)]) (bytes := cL_run) (mx := 4) (ret := (some .int)) (as := [.ref (adC 0), .int (xs (i + 1)), .ref o]) (rest := []) (n := 3) (K := fun k f1 g1 w1 => cI (n + 10000) 0 fc f1 g1) (hlp_run l hls0 D adC tc cA o sa H.size (fun hz => sfX8_run n 0 fc fC gC _ _ hz (by omega) hc (fun y f1 g1 h => ⟨y, rfl, h⟩)) (fun _ => cM hc (by omega) (by omega))) hT F (lGoodS goodH lA_H (lA_L0 _ (List.mem_of_getElem? (i := 22) (by decide +kernel))) (lA_L0 _ (List.mem_of_getElem? (i := 23) (by decide +kernel))) (lA_L0 _ (List.mem_of_getElem? (i := 13) (by decide +kernel))) (lA_L0 _ (List.mem_of_getElem? (i := 24) (by decide +kernel))) rfl) rfl rfl rfl (by decide +kernel) ⟨by decide, by decide⟩ rfl hl.1 (Nat.le_of_ble_eq_true rfl) dL_law_145 hcl hsl hP hD hS (fun k fC gC w1 H locs hk hP hD hS => ?_)
  have hc := hk
  refine lv_istore (lv' := [(5, .int k), (0, .ref b), (1, .ref (adC 0)), (2, .ref (adM 0)), (3, .ref o), (4, .int (nI i))]) hx hb dL_law_148 hl (by decide) rfl (fun ls hl => ?_)
  refine lv_aload_n hx hb dL_law_150 rfl (lv_at hl 3 rfl) ?_
  refine lv_aload_n hx hb dL_law_151 rfl (lv_at hl 1 rfl) ?_
  refine lv_iload hx hb dL_law_152 (lv_at hl 5 rfl) ?_
  refine lv_iconst (v := 1) hx hb dL_law_154 (by decide) ?_
  refine lv_iadd hx hb dL_law_155 ?_
  rw [show nI i + (1 : Int32) = nI (i + 1) from nI_add i 1]
  refine va_sld hx hb hX hbl hbA hS (vp_in_nI (n := i + 1) (N := L) (by omega) (by omega)) dL_law_156 ?_
  rw [nI_clamp (show i + 1 < 2 ^ 31 by omega)]
  refine lCallM (bytes := cX9_run) (mx := 4) (ret := (some .int)) (rm := rmX9_run) (av := [.inl (xs (i + 1))]) (rest := []) (n := 1) (K := fun r f1 g1 => (∃ y, r = some (.inl y)) ∧ rI (n + 10000) 8000 fr f1 g1) (metX9_run l D adM tc) (sfX9_run n 0 fr fM gM _ _ (by omega) hr (fun y f1 g1 h => ⟨⟨y, rfl⟩, h⟩)) F (lGoodV goodM lA_M (lA_L0 _ (List.mem_of_getElem? (i := 25) (by decide +kernel))) (lA_L0 _ (List.mem_of_getElem? (i := 26) (by decide +kernel))) (lA_L0 _ (List.mem_of_getElem? (i := 27) (by decide +kernel))) (lA_L0 _ (List.mem_of_getElem? (i := 5) (by decide +kernel))) (lA_L0 _ (List.mem_of_getElem? (i := 28) (by decide +kernel))) rfl) rfl rfl rfl (by decide +kernel) ⟨by decide, by decide⟩ rfl hl.1 (Nat.le_of_ble_eq_true rfl) dL_law_157 hcl hsl hP hD hS (fun r fM gM H locs hk hP hD hS => ?_)
  obtain ⟨⟨y, rfl⟩, hr⟩ := hk
  refine lv_istore (lv' := [(6, .int y), (5, .int k), (0, .ref b), (1, .ref (adC 0)), (2, .ref (adM 0)), (3, .ref o), (4, .int (nI i))]) hx hb dL_law_160 hl (by decide) rfl (fun ls hl => ?_)
  refine lv_goto (tgt := 636) hx hb dL_law_162 (by decide) ?_
  exact kk H locs ls ⟨fC, gC, fM, gM, w1, fc, fr, (n + 10000), lv_sub hl [2, 3, 4, 5, 6] rfl, hP, hD, hS, hc, hr, h70, h2, by omega⟩
set_option maxHeartbeats 4000000 in
set_option maxRecDepth 100000 in
theorem case_2 {p : Program} {l : Launch} {e : Env} {s : State} {m : MethodId} {below : List Frame} {meth : Method} {c : Code} {H : Heap} {locs : List Loc} {cells slots : Nat} {Q : State → Prop} {D : va_G} {tc : Nat → ClassId} {cA : ClassId} {adC adM : Nat → Nat} {o b L i : Nat} {xs : Nat → Int32} {ls : Array Slot} {N : Int} (hls0 : l.stackTraces = false) (F : lFix p s m b c L xs D tc cA) (hi : i + 7 ≤ L) (hL : L ≤ 3584) (hN : N + 400000 ≤ 300000000) (hcl : cells + 1 ≤ 601024) (hsl : slots + 6 ≤ 7293034) (hst : lSt D tc adC adM cA o b i s N H locs ls)
    (kk : ∀ (H : Heap) (locs : List Loc) (ls : Array Slot), lSt D tc adC adM cA o b i s (N + 400000) H locs ls → W p l e room_1 s m #[Value.ref b] below meth c H locs (cells + 1) (slots + 6) Q (F0 m 636 ls [])) : W p l e room_1 s m #[Value.ref b] below meth c H locs cells slots Q (F0 m 165 ls []) := by
  obtain ⟨hx, hb, hml, hown, hts, hK, hK2, hX, hbl, hTX⟩ := id F
  have hbA : ¬ (fun q : Nat => s.heap.size ≤ q) b := Nat.not_le.mpr hbl
  obtain ⟨fC, gC, fM, gM, w, fc, fr, n, hl, hP, hD, hS, hc, hr, h70, h2, hn⟩ := hst
  refine lv_aload_n hx hb dL_law_165 rfl (lv_at hl 1 rfl) ?_
  refine lv_aload_n hx hb dL_law_166 rfl (lv_at hl 0 rfl) ?_
  refine lv_iload hx hb dL_law_167 (lv_at hl 4 rfl) ?_
  refine lv_iconst (v := 1) hx hb dL_law_169 (by decide) ?_
  refine lv_iadd hx hb dL_law_170 ?_
  rw [show nI i + (1 : Int32) = nI (i + 1) from nI_add i 1]
  refine va_sld hx hb hX hbl hbA hS (vp_in_nI (n := i + 1) (N := L) (by omega) (by omega)) dL_law_171 ?_
  rw [nI_clamp (show i + 1 < 2 ^ 31 by omega)]
  refine lv_aload_n hx hb dL_law_172 rfl (lv_at hl 3 rfl) ?_
  obtain ⟨sa, hT⟩ := hTX (45, "n is not 1 .. 200000", "java/lang/IllegalArgumentException") (by decide +kernel)
  refine lCallH (hh := [(0, 9, 12, 13)]) (bytes := cL_pass) (mx := 4) (ret := (some .int)) (as := [.ref (adC 0), .int (xs (i + 1)), .ref o]) (rest := []) (n := 3) (K := fun k f1 g1 w1 => cI (n + 400000) 0 fc f1 g1) (hlp_pass l hls0 D adC tc cA o sa H.size (fun hz => sfX8_pass n 0 fc fC gC _ _ hz (by omega) hc (fun y f1 g1 h => ⟨y, rfl, h⟩)) (fun _ => cM hc (by omega) (by omega))) hT F (lGoodS goodH lA_H (lA_L0 _ (List.mem_of_getElem? (i := 29) (by decide +kernel))) (lA_L0 _ (List.mem_of_getElem? (i := 30) (by decide +kernel))) (lA_L0 _ (List.mem_of_getElem? (i := 13) (by decide +kernel))) (lA_L0 _ (List.mem_of_getElem? (i := 31) (by decide +kernel))) rfl) rfl rfl rfl (by decide +kernel) ⟨by decide, by decide⟩ rfl hl.1 (Nat.le_of_ble_eq_true rfl) dL_law_173 hcl hsl hP hD hS (fun k fC gC w1 H locs hk hP hD hS => ?_)
  have hc := hk
  refine lv_istore (lv' := [(5, .int k), (0, .ref b), (1, .ref (adC 0)), (2, .ref (adM 0)), (3, .ref o), (4, .int (nI i))]) hx hb dL_law_176 hl (by decide) rfl (fun ls hl => ?_)
  refine lv_aload_n hx hb dL_law_178 rfl (lv_at hl 3 rfl) ?_
  refine lv_aload_n hx hb dL_law_179 rfl (lv_at hl 1 rfl) ?_
  refine lv_iload hx hb dL_law_180 (lv_at hl 5 rfl) ?_
  refine lv_iconst (v := 1) hx hb dL_law_182 (by decide) ?_
  refine lv_iadd hx hb dL_law_183 ?_
  rw [show nI i + (1 : Int32) = nI (i + 1) from nI_add i 1]
  refine va_sld hx hb hX hbl hbA hS (vp_in_nI (n := i + 1) (N := L) (by omega) (by omega)) dL_law_184 ?_
  rw [nI_clamp (show i + 1 < 2 ^ 31 by omega)]
  refine lCallM (bytes := cX9_pass) (mx := 3) (ret := (some .int)) (rm := rmX9_pass) (av := [.inl (xs (i + 1))]) (rest := []) (n := 1) (K := fun r f1 g1 => (∃ y, r = some (.inl y)) ∧ rI (n + 400000) 8000 fr f1 g1) (metX9_pass l D adM tc) (sfX9_pass n 0 fr fM gM _ _ (by omega) hr (fun y f1 g1 h => ⟨⟨y, rfl⟩, h⟩)) F (lGoodV goodM lA_M (lA_L0 _ (List.mem_of_getElem? (i := 32) (by decide +kernel))) (lA_L0 _ (List.mem_of_getElem? (i := 33) (by decide +kernel))) (lA_L0 _ (List.mem_of_getElem? (i := 34) (by decide +kernel))) (lA_L0 _ (List.mem_of_getElem? (i := 5) (by decide +kernel))) (lA_L0 _ (List.mem_of_getElem? (i := 35) (by decide +kernel))) rfl) rfl rfl rfl (by decide +kernel) ⟨by decide, by decide⟩ rfl hl.1 (Nat.le_of_ble_eq_true rfl) dL_law_185 hcl hsl hP hD hS (fun r fM gM H locs hk hP hD hS => ?_)
  obtain ⟨⟨y, rfl⟩, hr⟩ := hk
  refine lv_istore (lv' := [(6, .int y), (5, .int k), (0, .ref b), (1, .ref (adC 0)), (2, .ref (adM 0)), (3, .ref o), (4, .int (nI i))]) hx hb dL_law_188 hl (by decide) rfl (fun ls hl => ?_)
  refine lv_goto (tgt := 636) hx hb dL_law_190 (by decide) ?_
  exact kk H locs ls ⟨fC, gC, fM, gM, w1, fc, fr, (n + 400000), lv_sub hl [2, 3, 4, 5, 6] rfl, hP, hD, hS, hc, hr, h70, h2, by omega⟩
set_option maxHeartbeats 4000000 in
set_option maxRecDepth 100000 in
theorem case_3 {p : Program} {l : Launch} {e : Env} {s : State} {m : MethodId} {below : List Frame} {meth : Method} {c : Code} {H : Heap} {locs : List Loc} {cells slots : Nat} {Q : State → Prop} {D : va_G} {tc : Nat → ClassId} {cA : ClassId} {adC adM : Nat → Nat} {o b L i : Nat} {xs : Nat → Int32} {ls : Array Slot} {N : Int} (hls0 : l.stackTraces = false) (F : lFix p s m b c L xs D tc cA) (hi : i + 7 ≤ L) (hL : L ≤ 3584) (hN : N + 400000 ≤ 300000000) (hcl : cells + 1 ≤ 601024) (hsl : slots + 6 ≤ 7293034) (hst : lSt D tc adC adM cA o b i s N H locs ls)
    (kk : ∀ (H : Heap) (locs : List Loc) (ls : Array Slot), lSt D tc adC adM cA o b i s (N + 400000) H locs ls → W p l e room_1 s m #[Value.ref b] below meth c H locs (cells + 1) (slots + 6) Q (F0 m 636 ls [])) : W p l e room_1 s m #[Value.ref b] below meth c H locs cells slots Q (F0 m 193 ls []) := by
  obtain ⟨hx, hb, hml, hown, hts, hK, hK2, hX, hbl, hTX⟩ := id F
  have hbA : ¬ (fun q : Nat => s.heap.size ≤ q) b := Nat.not_le.mpr hbl
  obtain ⟨fC, gC, fM, gM, w, fc, fr, n, hl, hP, hD, hS, hc, hr, h70, h2, hn⟩ := hst
  refine lv_aload_n hx hb dL_law_193 rfl (lv_at hl 1 rfl) ?_
  refine lv_aload_n hx hb dL_law_194 rfl (lv_at hl 0 rfl) ?_
  refine lv_iload hx hb dL_law_195 (lv_at hl 4 rfl) ?_
  refine lv_iconst (v := 1) hx hb dL_law_197 (by decide) ?_
  refine lv_iadd hx hb dL_law_198 ?_
  rw [show nI i + (1 : Int32) = nI (i + 1) from nI_add i 1]
  refine va_sld hx hb hX hbl hbA hS (vp_in_nI (n := i + 1) (N := L) (by omega) (by omega)) dL_law_199 ?_
  rw [nI_clamp (show i + 1 < 2 ^ 31 by omega)]
  refine lCallC (bytes := cX8_host) (mx := 2) (ret := (some .int)) (rm := rmX8_host) (av := [.inl (xs (i + 1))]) (rest := []) (n := 1) (K := fun r f1 g1 => (∃ y, r = some (.inl y)) ∧ cI n 0 fc f1 g1) (metX8_host l D adC tc) (sfX8_host _ 0 fc fC gC _ _ hc (fun y f1 g1 _ h => ⟨⟨y, rfl⟩, h⟩)) F (lGoodV goodC lA_C (lA_L0 _ (List.mem_of_getElem? (i := 36) (by decide +kernel))) (lA_L0 _ (List.mem_of_getElem? (i := 37) (by decide +kernel))) (lA_L0 _ (List.mem_of_getElem? (i := 38) (by decide +kernel))) (lA_L0 _ (List.mem_of_getElem? (i := 2) (by decide +kernel))) (lA_L0 _ (List.mem_of_getElem? (i := 39) (by decide +kernel))) rfl) rfl rfl rfl (by decide +kernel) ⟨by decide, by decide⟩ rfl hl.1 (Nat.le_of_ble_eq_true rfl) dL_law_200 (Nat.le_of_succ_le hcl) (Nat.le_trans (Nat.le_add_right _ 6) hsl) hP hD hS (fun r fC gC H locs hk hP hD hS => ?_)
  obtain ⟨⟨y, rfl⟩, hc⟩ := hk
  refine lv_pop hx hb dL_law_203 rfl ?_
  refine lv_aload_n hx hb dL_law_204 rfl (lv_at hl 2 rfl) ?_
  refine lv_aload_n hx hb dL_law_205 rfl (lv_at hl 0 rfl) ?_
  refine lv_iload hx hb dL_law_206 (lv_at hl 4 rfl) ?_
  refine lv_iconst (v := 1) hx hb dL_law_208 (by decide) ?_
  refine lv_iadd hx hb dL_law_209 ?_
  rw [show nI i + (1 : Int32) = nI (i + 1) from nI_add i 1]
  refine va_sld hx hb hX hbl hbA hS (vp_in_nI (n := i + 1) (N := L) (by omega) (by omega)) dL_law_210 ?_
  rw [nI_clamp (show i + 1 < 2 ^ 31 by omega)]
  refine lCallM (bytes := cX9_host) (mx := 2) (ret := (some .int)) (rm := rmX9_host) (av := [.inl (xs (i + 1))]) (rest := []) (n := 1) (K := fun r f1 g1 => (∃ y, r = some (.inl y)) ∧ rI n 8000 fr f1 g1) (metX9_host l D adM tc) (sfX9_host _ 8000 fr fM gM _ _ hr (fun y f1 g1 _ h => ⟨⟨y, rfl⟩, h⟩)) F (lGoodV goodM lA_M (lA_L0 _ (List.mem_of_getElem? (i := 40) (by decide +kernel))) (lA_L0 _ (List.mem_of_getElem? (i := 41) (by decide +kernel))) (lA_L0 _ (List.mem_of_getElem? (i := 42) (by decide +kernel))) (lA_L0 _ (List.mem_of_getElem? (i := 5) (by decide +kernel))) (lA_L0 _ (List.mem_of_getElem? (i := 43) (by decide +kernel))) rfl) rfl rfl rfl (by decide +kernel) ⟨by decide, by decide⟩ rfl hl.1 (Nat.le_of_ble_eq_true rfl) dL_law_211 (Nat.le_of_succ_le hcl) (Nat.le_trans (Nat.le_add_right _ 6) hsl) hP hD hS (fun r fM gM H locs hk hP hD hS => ?_)
  obtain ⟨⟨y, rfl⟩, hr⟩ := hk
  refine lv_pop hx hb dL_law_214 rfl ?_
  refine lv_goto (tgt := 636) hx hb dL_law_215 (by decide) ?_
  refine W.widen (k := cells + 1) (n := slots + 6) (by omega) (by omega) ?_
  exact kk H locs ls ⟨fC, gC, fM, gM, w, fc, fr, n, lv_sub hl [0, 1, 2, 3, 4] rfl, hP, hD, hS, hc, hr, h70, h2, by omega⟩
set_option maxHeartbeats 4000000 in
set_option maxRecDepth 100000 in
theorem case_4 {p : Program} {l : Launch} {e : Env} {s : State} {m : MethodId} {below : List Frame} {meth : Method} {c : Code} {H : Heap} {locs : List Loc} {cells slots : Nat} {Q : State → Prop} {D : va_G} {tc : Nat → ClassId} {cA : ClassId} {adC adM : Nat → Nat} {o b L i : Nat} {xs : Nat → Int32} {ls : Array Slot} {N : Int} (hls0 : l.stackTraces = false) (F : lFix p s m b c L xs D tc cA) (hi : i + 7 ≤ L) (hL : L ≤ 3584) (hN : N + 400000 ≤ 300000000) (hcl : cells + 1 ≤ 601024) (hsl : slots + 6 ≤ 7293034) (hst : lSt D tc adC adM cA o b i s N H locs ls)
    (kk : ∀ (H : Heap) (locs : List Loc) (ls : Array Slot), lSt D tc adC adM cA o b i s (N + 400000) H locs ls → W p l e room_1 s m #[Value.ref b] below meth c H locs (cells + 1) (slots + 6) Q (F0 m 636 ls [])) : W p l e room_1 s m #[Value.ref b] below meth c H locs cells slots Q (F0 m 218 ls []) := by
  obtain ⟨hx, hb, hml, hown, hts, hK, hK2, hX, hbl, hTX⟩ := id F
  have hbA : ¬ (fun q : Nat => s.heap.size ≤ q) b := Nat.not_le.mpr hbl
  obtain ⟨fC, gC, fM, gM, w, fc, fr, n, hl, hP, hD, hS, hc, hr, h70, h2, hn⟩ := hst
  refine lv_aload_n hx hb dL_law_218 rfl (lv_at hl 1 rfl) ?_
  refine lCallC (bytes := cX8_sent) (mx := 1) (ret := (some .int)) (rm := rmX8_sent) (av := []) (rest := []) (n := 0) (K := fun r f1 g1 => (∃ y, r = some (.inl y)) ∧ cI n 0 fc f1 g1) (metX8_sent l D adC tc) (sfX8_sent _ 0 fc fC gC _ hc (fun y _ => ⟨⟨y, rfl⟩, hc⟩)) F (lGoodV goodC lA_C (lA_L0 _ (List.mem_of_getElem? (i := 44) (by decide +kernel))) (lA_L0 _ (List.mem_of_getElem? (i := 45) (by decide +kernel))) (lA_L0 _ (List.mem_of_getElem? (i := 46) (by decide +kernel))) (lA_L0 _ (List.mem_of_getElem? (i := 2) (by decide +kernel))) (lA_L0 _ (List.mem_of_getElem? (i := 47) (by decide +kernel))) rfl) rfl rfl rfl (by decide +kernel) ⟨by decide, by decide⟩ rfl hl.1 (Nat.le_of_ble_eq_true rfl) dL_law_219 (Nat.le_of_succ_le hcl) (Nat.le_trans (Nat.le_add_right _ 6) hsl) hP hD hS (fun r fC gC H locs hk hP hD hS => ?_)
  obtain ⟨⟨y, rfl⟩, hc⟩ := hk
  refine lv_pop hx hb dL_law_222 rfl ?_
  refine lv_aload_n hx hb dL_law_223 rfl (lv_at hl 2 rfl) ?_
  refine lCallM (bytes := cX9_sent) (mx := 1) (ret := (some .int)) (rm := rmX9_sent) (av := []) (rest := []) (n := 0) (K := fun r f1 g1 => (∃ y, r = some (.inl y)) ∧ rI n 8000 fr f1 g1) (metX9_sent l D adM tc) (sfX9_sent _ 8000 fr fM gM _ hr (fun y f1 g1 _ h => ⟨⟨y, rfl⟩, h⟩)) F (lGoodV goodM lA_M (lA_L0 _ (List.mem_of_getElem? (i := 48) (by decide +kernel))) (lA_L0 _ (List.mem_of_getElem? (i := 49) (by decide +kernel))) (lA_L0 _ (List.mem_of_getElem? (i := 50) (by decide +kernel))) (lA_L0 _ (List.mem_of_getElem? (i := 5) (by decide +kernel))) (lA_L0 _ (List.mem_of_getElem? (i := 51) (by decide +kernel))) rfl) rfl rfl rfl (by decide +kernel) ⟨by decide, by decide⟩ rfl hl.1 (Nat.le_of_ble_eq_true rfl) dL_law_224 (Nat.le_of_succ_le hcl) (Nat.le_trans (Nat.le_add_right _ 6) hsl) hP hD hS (fun r fM gM H locs hk hP hD hS => ?_)
  obtain ⟨⟨y, rfl⟩, hr⟩ := hk
  refine lv_pop hx hb dL_law_227 rfl ?_
  refine lv_goto (tgt := 636) hx hb dL_law_228 (by decide) ?_
  refine W.widen (k := cells + 1) (n := slots + 6) (by omega) (by omega) ?_
  exact kk H locs ls ⟨fC, gC, fM, gM, w, fc, fr, n, lv_sub hl [0, 1, 2, 3, 4] rfl, hP, hD, hS, hc, hr, h70, h2, by omega⟩
set_option maxHeartbeats 4000000 in
set_option maxRecDepth 100000 in
theorem case_5 {p : Program} {l : Launch} {e : Env} {s : State} {m : MethodId} {below : List Frame} {meth : Method} {c : Code} {H : Heap} {locs : List Loc} {cells slots : Nat} {Q : State → Prop} {D : va_G} {tc : Nat → ClassId} {cA : ClassId} {adC adM : Nat → Nat} {o b L i : Nat} {xs : Nat → Int32} {ls : Array Slot} {N : Int} (hls0 : l.stackTraces = false) (F : lFix p s m b c L xs D tc cA) (hi : i + 7 ≤ L) (hL : L ≤ 3584) (hN : N + 400000 ≤ 300000000) (hcl : cells + 1 ≤ 601024) (hsl : slots + 6 ≤ 7293034) (hst : lSt D tc adC adM cA o b i s N H locs ls)
    (kk : ∀ (H : Heap) (locs : List Loc) (ls : Array Slot), lSt D tc adC adM cA o b i s (N + 400000) H locs ls → W p l e room_1 s m #[Value.ref b] below meth c H locs (cells + 1) (slots + 6) Q (F0 m 636 ls [])) : W p l e room_1 s m #[Value.ref b] below meth c H locs cells slots Q (F0 m 231 ls []) := by
  obtain ⟨hx, hb, hml, hown, hts, hK, hK2, hX, hbl, hTX⟩ := id F
  have hbA : ¬ (fun q : Nat => s.heap.size ≤ q) b := Nat.not_le.mpr hbl
  obtain ⟨fC, gC, fM, gM, w, fc, fr, n, hl, hP, hD, hS, hc, hr, h70, h2, hn⟩ := hst
  refine lv_aload_n hx hb dL_law_231 rfl (lv_at hl 1 rfl) ?_
  refine lv_aload_n hx hb dL_law_232 rfl (lv_at hl 0 rfl) ?_
  refine lv_iload hx hb dL_law_233 (lv_at hl 4 rfl) ?_
  refine lv_iconst (v := 1) hx hb dL_law_235 (by decide) ?_
  refine lv_iadd hx hb dL_law_236 ?_
  rw [show nI i + (1 : Int32) = nI (i + 1) from nI_add i 1]
  refine va_sld hx hb hX hbl hbA hS (vp_in_nI (n := i + 1) (N := L) (by omega) (by omega)) dL_law_237 ?_
  rw [nI_clamp (show i + 1 < 2 ^ 31 by omega)]
  refine lv_aload_n hx hb dL_law_238 rfl (lv_at hl 3 rfl) ?_
  obtain ⟨sa, hT⟩ := hTX (63, "no such byte is kept", "java/util/NoSuchElementException") (by decide +kernel)
  refine lCallH (hh := [(0, 9, 12, 21)]) (bytes := cL_got) (mx := 4) (ret := (some .int)) (as := [.ref (adC 0), .int (xs (i + 1)), .ref o]) (rest := []) (n := 3) (K := fun k f1 g1 w1 => cI n 0 fc f1 g1) (hlp_got l hls0 D adC tc cA o sa H.size (fun hz => sfX8_got n 0 fc fC gC _ _ hz hc (fun y => ⟨y, rfl, hc⟩)) (fun _ => hc)) hT F (lGoodS goodH lA_H (lA_L0 _ (List.mem_of_getElem? (i := 52) (by decide +kernel))) (lA_L0 _ (List.mem_of_getElem? (i := 53) (by decide +kernel))) (lA_L0 _ (List.mem_of_getElem? (i := 13) (by decide +kernel))) (lA_L0 _ (List.mem_of_getElem? (i := 54) (by decide +kernel))) rfl) rfl rfl rfl (by decide +kernel) ⟨by decide, by decide⟩ rfl hl.1 (Nat.le_of_ble_eq_true rfl) dL_law_239 hcl hsl hP hD hS (fun k fC gC w1 H locs hk hP hD hS => ?_)
  have hc := hk
  refine lv_istore (lv' := [(5, .int k), (0, .ref b), (1, .ref (adC 0)), (2, .ref (adM 0)), (3, .ref o), (4, .int (nI i))]) hx hb dL_law_242 hl (by decide) rfl (fun ls hl => ?_)
  refine lv_aload_n hx hb dL_law_244 rfl (lv_at hl 3 rfl) ?_
  refine lv_aload_n hx hb dL_law_245 rfl (lv_at hl 1 rfl) ?_
  refine lv_iload hx hb dL_law_246 (lv_at hl 5 rfl) ?_
  refine lv_iconst (v := 1) hx hb dL_law_248 (by decide) ?_
  refine lv_iadd hx hb dL_law_249 ?_
  rw [show nI i + (1 : Int32) = nI (i + 1) from nI_add i 1]
  refine va_sld hx hb hX hbl hbA hS (vp_in_nI (n := i + 1) (N := L) (by omega) (by omega)) dL_law_250 ?_
  rw [nI_clamp (show i + 1 < 2 ^ 31 by omega)]
  refine lCallM (bytes := cX9_got) (mx := 2) (ret := (some .int)) (rm := rmX9_got) (av := [.inl (xs (i + 1))]) (rest := []) (n := 1) (K := fun r f1 g1 => (∃ y, r = some (.inl y)) ∧ rI n 8000 fr f1 g1) (metX9_got l D adM tc) (sfX9_got _ 8000 fr fM gM _ _ hr (fun y f1 g1 _ h => ⟨⟨y, rfl⟩, h⟩)) F (lGoodV goodM lA_M (lA_L0 _ (List.mem_of_getElem? (i := 55) (by decide +kernel))) (lA_L0 _ (List.mem_of_getElem? (i := 56) (by decide +kernel))) (lA_L0 _ (List.mem_of_getElem? (i := 57) (by decide +kernel))) (lA_L0 _ (List.mem_of_getElem? (i := 5) (by decide +kernel))) (lA_L0 _ (List.mem_of_getElem? (i := 58) (by decide +kernel))) rfl) rfl rfl rfl (by decide +kernel) ⟨by decide, by decide⟩ rfl hl.1 (Nat.le_of_ble_eq_true rfl) dL_law_251 hcl hsl hP hD hS (fun r fM gM H locs hk hP hD hS => ?_)
  obtain ⟨⟨y, rfl⟩, hr⟩ := hk
  refine lv_istore (lv' := [(6, .int y), (5, .int k), (0, .ref b), (1, .ref (adC 0)), (2, .ref (adM 0)), (3, .ref o), (4, .int (nI i))]) hx hb dL_law_254 hl (by decide) rfl (fun ls hl => ?_)
  refine lv_goto (tgt := 636) hx hb dL_law_256 (by decide) ?_
  exact kk H locs ls ⟨fC, gC, fM, gM, w1, fc, fr, n, lv_sub hl [2, 3, 4, 5, 6] rfl, hP, hD, hS, hc, hr, h70, h2, by omega⟩
set_option maxHeartbeats 4000000 in
set_option maxRecDepth 100000 in
theorem case_6 {p : Program} {l : Launch} {e : Env} {s : State} {m : MethodId} {below : List Frame} {meth : Method} {c : Code} {H : Heap} {locs : List Loc} {cells slots : Nat} {Q : State → Prop} {D : va_G} {tc : Nat → ClassId} {cA : ClassId} {adC adM : Nat → Nat} {o b L i : Nat} {xs : Nat → Int32} {ls : Array Slot} {N : Int} (hls0 : l.stackTraces = false) (F : lFix p s m b c L xs D tc cA) (hi : i + 7 ≤ L) (hL : L ≤ 3584) (hN : N + 400000 ≤ 300000000) (hcl : cells + 1 ≤ 601024) (hsl : slots + 6 ≤ 7293034) (hst : lSt D tc adC adM cA o b i s N H locs ls)
    (kk : ∀ (H : Heap) (locs : List Loc) (ls : Array Slot), lSt D tc adC adM cA o b i s (N + 400000) H locs ls → W p l e room_1 s m #[Value.ref b] below meth c H locs (cells + 1) (slots + 6) Q (F0 m 636 ls [])) : W p l e room_1 s m #[Value.ref b] below meth c H locs cells slots Q (F0 m 259 ls []) := by
  obtain ⟨hx, hb, hml, hown, hts, hK, hK2, hX, hbl, hTX⟩ := id F
  have hbA : ¬ (fun q : Nat => s.heap.size ≤ q) b := Nat.not_le.mpr hbl
  obtain ⟨fC, gC, fM, gM, w, fc, fr, n, hl, hP, hD, hS, hc, hr, h70, h2, hn⟩ := hst
  refine lv_aload_n hx hb dL_law_259 rfl (lv_at hl 1 rfl) ?_
  refine lv_aload_n hx hb dL_law_260 rfl (lv_at hl 0 rfl) ?_
  refine lv_iload hx hb dL_law_261 (lv_at hl 4 rfl) ?_
  refine lv_iconst (v := 1) hx hb dL_law_263 (by decide) ?_
  refine lv_iadd hx hb dL_law_264 ?_
  rw [show nI i + (1 : Int32) = nI (i + 1) from nI_add i 1]
  refine va_sld hx hb hX hbl hbA hS (vp_in_nI (n := i + 1) (N := L) (by omega) (by omega)) dL_law_265 ?_
  rw [nI_clamp (show i + 1 < 2 ^ 31 by omega)]
  refine lv_aload_n hx hb dL_law_266 rfl (lv_at hl 0 rfl) ?_
  refine lv_iload hx hb dL_law_267 (lv_at hl 4 rfl) ?_
  refine lv_iconst (v := 2) hx hb dL_law_269 (by decide) ?_
  refine lv_iadd hx hb dL_law_270 ?_
  rw [show nI i + (2 : Int32) = nI (i + 2) from nI_add i 2]
  refine va_sld hx hb hX hbl hbA hS (vp_in_nI (n := i + 2) (N := L) (by omega) (by omega)) dL_law_271 ?_
  rw [nI_clamp (show i + 2 < 2 ^ 31 by omega)]
  refine lv_aload_n hx hb dL_law_272 rfl (lv_at hl 0 rfl) ?_
  refine lv_iload hx hb dL_law_273 (lv_at hl 4 rfl) ?_
  refine lv_iconst (v := 3) hx hb dL_law_275 (by decide) ?_
  refine lv_iadd hx hb dL_law_276 ?_
  rw [show nI i + (3 : Int32) = nI (i + 3) from nI_add i 3]
  refine va_sld hx hb hX hbl hbA hS (vp_in_nI (n := i + 3) (N := L) (by omega) (by omega)) dL_law_277 ?_
  rw [nI_clamp (show i + 3 < 2 ^ 31 by omega)]
  refine lv_aload_n hx hb dL_law_278 rfl (lv_at hl 0 rfl) ?_
  refine lv_iload hx hb dL_law_279 (lv_at hl 4 rfl) ?_
  refine lv_iconst (v := 4) hx hb dL_law_281 (by decide) ?_
  refine lv_iadd hx hb dL_law_282 ?_
  rw [show nI i + (4 : Int32) = nI (i + 4) from nI_add i 4]
  refine va_sld hx hb hX hbl hbA hS (vp_in_nI (n := i + 4) (N := L) (by omega) (by omega)) dL_law_283 ?_
  rw [nI_clamp (show i + 4 < 2 ^ 31 by omega)]
  refine lv_aload_n hx hb dL_law_284 rfl (lv_at hl 0 rfl) ?_
  refine lv_iload hx hb dL_law_285 (lv_at hl 4 rfl) ?_
  refine lv_iconst (v := 5) hx hb dL_law_287 (by decide) ?_
  refine lv_iadd hx hb dL_law_288 ?_
  rw [show nI i + (5 : Int32) = nI (i + 5) from nI_add i 5]
  refine va_sld hx hb hX hbl hbA hS (vp_in_nI (n := i + 5) (N := L) (by omega) (by omega)) dL_law_289 ?_
  rw [nI_clamp (show i + 5 < 2 ^ 31 by omega)]
  refine lv_aload_n hx hb dL_law_290 rfl (lv_at hl 0 rfl) ?_
  refine lv_iload hx hb dL_law_291 (lv_at hl 4 rfl) ?_
  refine lv_bipush (v := 6) hx hb dL_law_293 (by decide) ?_
  refine lv_iadd hx hb dL_law_295 ?_
  rw [show nI i + (6 : Int32) = nI (i + 6) from nI_add i 6]
  refine va_sld hx hb hX hbl hbA hS (vp_in_nI (n := i + 6) (N := L) (by omega) (by omega)) dL_law_296 ?_
  rw [nI_clamp (show i + 6 < 2 ^ 31 by omega)]
  refine lv_aload_n hx hb dL_law_297 rfl (lv_at hl 3 rfl) ?_
  obtain ⟨sa, hT⟩ := hTX (76, "no address of FLASH", "java/lang/IndexOutOfBoundsException") (by decide +kernel)
  refine lCallH (hh := [(0, 18, 21, 27)]) (bytes := cL_burn) (mx := 9) (ret := (some .int)) (as := [.ref (adC 0), .int (xs (i + 1)), .int (xs (i + 2)), .int (xs (i + 3)), .int (xs (i + 4)), .int (xs (i + 5)), .int (xs (i + 6)), .ref o]) (rest := []) (n := 8) (K := fun k f1 g1 w1 => cI n 0 fc f1 g1 ∧ ((rg 0 2047 ((xs (i + 1))) ∧ k = 0 ∧ ∃ y : Int32, y.toInt = min 10 (2048 - ((xs (i + 1))).toInt) ∧ w1 = vp_updL w 0 y.toInt64) ∨ (¬ rg 0 2047 ((xs (i + 1))) ∧ k = 1))) (hlp_burn l hls0 D adC tc cA o sa H.size (fun hz => sfX8_burn n 0 fc fC gC _ _ _ _ _ _ _ hz hc (fun y g1 hy h => ⟨y, rfl, h, Or.inl ⟨hz, rfl, y, hy, rfl⟩⟩)) (fun hz => ⟨hc, Or.inr ⟨hz, rfl⟩⟩)) hT F (lGoodS goodH lA_H (lA_L0 _ (List.mem_of_getElem? (i := 59) (by decide +kernel))) (lA_L0 _ (List.mem_of_getElem? (i := 60) (by decide +kernel))) (lA_L0 _ (List.mem_of_getElem? (i := 13) (by decide +kernel))) (lA_L0 _ (List.mem_of_getElem? (i := 61) (by decide +kernel))) rfl) rfl rfl rfl (by decide +kernel) ⟨by decide, by decide⟩ rfl hl.1 (Nat.le_of_ble_eq_true rfl) dL_law_298 hcl hsl hP hD hS (fun k fC gC w1 H locs hk hP hD hS => ?_)
  obtain ⟨hc, hk⟩ := hk
  have hk0 := hk
  refine lv_istore (lv' := [(5, .int k), (0, .ref b), (1, .ref (adC 0)), (2, .ref (adM 0)), (3, .ref o), (4, .int (nI i))]) hx hb dL_law_301 hl (by decide) rfl (fun ls hl => ?_)
  refine lv_aload_n hx hb dL_law_303 rfl (lv_at hl 3 rfl) ?_
  refine lv_aload_n hx hb dL_law_304 rfl (lv_at hl 1 rfl) ?_
  refine lv_iload hx hb dL_law_305 (lv_at hl 5 rfl) ?_
  refine lv_iconst (v := 1) hx hb dL_law_307 (by decide) ?_
  refine lv_iadd hx hb dL_law_308 ?_
  rw [show nI i + (1 : Int32) = nI (i + 1) from nI_add i 1]
  refine va_sld hx hb hX hbl hbA hS (vp_in_nI (n := i + 1) (N := L) (by omega) (by omega)) dL_law_309 ?_
  rw [nI_clamp (show i + 1 < 2 ^ 31 by omega)]
  refine lv_aload_n hx hb dL_law_310 rfl (lv_at hl 1 rfl) ?_
  refine lv_iload hx hb dL_law_311 (lv_at hl 5 rfl) ?_
  refine lv_iconst (v := 2) hx hb dL_law_313 (by decide) ?_
  refine lv_iadd hx hb dL_law_314 ?_
  rw [show nI i + (2 : Int32) = nI (i + 2) from nI_add i 2]
  refine va_sld hx hb hX hbl hbA hS (vp_in_nI (n := i + 2) (N := L) (by omega) (by omega)) dL_law_315 ?_
  rw [nI_clamp (show i + 2 < 2 ^ 31 by omega)]
  refine lv_aload_n hx hb dL_law_316 rfl (lv_at hl 1 rfl) ?_
  refine lv_iload hx hb dL_law_317 (lv_at hl 5 rfl) ?_
  refine lv_iconst (v := 3) hx hb dL_law_319 (by decide) ?_
  refine lv_iadd hx hb dL_law_320 ?_
  rw [show nI i + (3 : Int32) = nI (i + 3) from nI_add i 3]
  refine va_sld hx hb hX hbl hbA hS (vp_in_nI (n := i + 3) (N := L) (by omega) (by omega)) dL_law_321 ?_
  rw [nI_clamp (show i + 3 < 2 ^ 31 by omega)]
  refine lv_aload_n hx hb dL_law_322 rfl (lv_at hl 1 rfl) ?_
  refine lv_iload hx hb dL_law_323 (lv_at hl 5 rfl) ?_
  refine lv_iconst (v := 4) hx hb dL_law_325 (by decide) ?_
  refine lv_iadd hx hb dL_law_326 ?_
  rw [show nI i + (4 : Int32) = nI (i + 4) from nI_add i 4]
  refine va_sld hx hb hX hbl hbA hS (vp_in_nI (n := i + 4) (N := L) (by omega) (by omega)) dL_law_327 ?_
  rw [nI_clamp (show i + 4 < 2 ^ 31 by omega)]
  refine lv_aload_n hx hb dL_law_328 rfl (lv_at hl 1 rfl) ?_
  refine lv_iload hx hb dL_law_329 (lv_at hl 5 rfl) ?_
  refine lv_iconst (v := 5) hx hb dL_law_331 (by decide) ?_
  refine lv_iadd hx hb dL_law_332 ?_
  rw [show nI i + (5 : Int32) = nI (i + 5) from nI_add i 5]
  refine va_sld hx hb hX hbl hbA hS (vp_in_nI (n := i + 5) (N := L) (by omega) (by omega)) dL_law_333 ?_
  rw [nI_clamp (show i + 5 < 2 ^ 31 by omega)]
  refine lv_aload_n hx hb dL_law_334 rfl (lv_at hl 1 rfl) ?_
  refine lv_iload hx hb dL_law_335 (lv_at hl 5 rfl) ?_
  refine lv_bipush (v := 6) hx hb dL_law_337 (by decide) ?_
  refine lv_iadd hx hb dL_law_339 ?_
  rw [show nI i + (6 : Int32) = nI (i + 6) from nI_add i 6]
  refine va_sld hx hb hX hbl hbA hS (vp_in_nI (n := i + 6) (N := L) (by omega) (by omega)) dL_law_340 ?_
  rw [nI_clamp (show i + 6 < 2 ^ 31 by omega)]
  refine lCallM (bytes := cX9_burn) (mx := 8) (ret := (some .int)) (rm := rmX9_burn) (av := [.inl (xs (i + 1)), .inl (xs (i + 2)), .inl (xs (i + 3)), .inl (xs (i + 4)), .inl (xs (i + 5)), .inl (xs (i + 6))]) (rest := []) (n := 6) (K := fun r f1 g1 => ∃ y, r = some (.inl y) ∧ (rg 0 2047 (xs (i + 1)) → y.toInt = min 10 (2048 - ((xs (i + 1))).toInt) ∧ f1 0 = 0) ∧ (¬ rg 0 2047 (xs (i + 1)) → y = 0 ∧ f1 0 = 1) ∧ rI n 8000 fr f1 g1) (metX9_burn l D adM tc) (sfX9_burn _ 8000 fr fM gM _ _ _ _ _ _ _ hr (fun y f1 g1 ha hb h => ⟨y, rfl, ha, hb, h⟩)) F (lGoodV goodM lA_M (lA_L0 _ (List.mem_of_getElem? (i := 62) (by decide +kernel))) (lA_L0 _ (List.mem_of_getElem? (i := 63) (by decide +kernel))) (lA_L0 _ (List.mem_of_getElem? (i := 64) (by decide +kernel))) (lA_L0 _ (List.mem_of_getElem? (i := 5) (by decide +kernel))) (lA_L0 _ (List.mem_of_getElem? (i := 65) (by decide +kernel))) rfl) rfl rfl rfl (by decide +kernel) ⟨by decide, by decide⟩ rfl hl.1 (Nat.le_of_ble_eq_true rfl) dL_law_341 hcl hsl hP hD hS (fun r fM gM H locs hk hP hD hS => ?_)
  obtain ⟨y, rfl, hya, hyb, hr⟩ := hk
  have hTh : fM 0 = k := by
    rcases hk0 with ⟨hz, rfl, -⟩ | ⟨hz, rfl⟩
    · exact (hya hz).2
    · exact (hyb hz).2
  have hW : k = 0 → w1 (0 : Int32).toNatClampNeg = y.toInt64 := by
    intro z
    rcases hk0 with ⟨hz, -, y2, hy2, rfl⟩ | ⟨hz, e⟩
    · rw [show y = y2 from Int32.toInt_inj.mp ((hya hz).1.trans hy2.symm), show (0 : Int32).toNatClampNeg = 0 from by decide]; simp [vp_updL]
    · exact absurd (e.symm.trans z) (by decide)
  refine lv_istore (lv' := [(6, .int y), (5, .int k), (0, .ref b), (1, .ref (adC 0)), (2, .ref (adM 0)), (3, .ref o), (4, .int (nI i))]) hx hb dL_law_344 hl (by decide) rfl (fun ls hl => ?_)
  refine lv_goto (tgt := 636) hx hb dL_law_346 (by decide) ?_
  exact kk H locs ls ⟨fC, gC, fM, gM, w1, fc, fr, n, lv_sub hl [2, 3, 4, 5, 6] rfl, hP, hD, hS, hc, hr, h70, h2, by omega⟩
set_option maxHeartbeats 4000000 in
set_option maxRecDepth 100000 in
theorem case_7 {p : Program} {l : Launch} {e : Env} {s : State} {m : MethodId} {below : List Frame} {meth : Method} {c : Code} {H : Heap} {locs : List Loc} {cells slots : Nat} {Q : State → Prop} {D : va_G} {tc : Nat → ClassId} {cA : ClassId} {adC adM : Nat → Nat} {o b L i : Nat} {xs : Nat → Int32} {ls : Array Slot} {N : Int} (hls0 : l.stackTraces = false) (F : lFix p s m b c L xs D tc cA) (hi : i + 7 ≤ L) (hL : L ≤ 3584) (hN : N + 400000 ≤ 300000000) (hcl : cells + 1 ≤ 601024) (hsl : slots + 6 ≤ 7293034) (hst : lSt D tc adC adM cA o b i s N H locs ls)
    (kk : ∀ (H : Heap) (locs : List Loc) (ls : Array Slot), lSt D tc adC adM cA o b i s (N + 400000) H locs ls → W p l e room_1 s m #[Value.ref b] below meth c H locs (cells + 1) (slots + 6) Q (F0 m 636 ls [])) : W p l e room_1 s m #[Value.ref b] below meth c H locs cells slots Q (F0 m 349 ls []) := by
  obtain ⟨hx, hb, hml, hown, hts, hK, hK2, hX, hbl, hTX⟩ := id F
  have hbA : ¬ (fun q : Nat => s.heap.size ≤ q) b := Nat.not_le.mpr hbl
  obtain ⟨fC, gC, fM, gM, w, fc, fr, n, hl, hP, hD, hS, hc, hr, h70, h2, hn⟩ := hst
  refine lv_aload_n hx hb dL_law_349 rfl (lv_at hl 1 rfl) ?_
  refine lv_aload_n hx hb dL_law_350 rfl (lv_at hl 0 rfl) ?_
  refine lv_iload hx hb dL_law_351 (lv_at hl 4 rfl) ?_
  refine lv_iconst (v := 1) hx hb dL_law_353 (by decide) ?_
  refine lv_iadd hx hb dL_law_354 ?_
  rw [show nI i + (1 : Int32) = nI (i + 1) from nI_add i 1]
  refine va_sld hx hb hX hbl hbA hS (vp_in_nI (n := i + 1) (N := L) (by omega) (by omega)) dL_law_355 ?_
  rw [nI_clamp (show i + 1 < 2 ^ 31 by omega)]
  refine lv_aload_n hx hb dL_law_356 rfl (lv_at hl 3 rfl) ?_
  obtain ⟨sa, hT⟩ := hTX (76, "no address of FLASH", "java/lang/IndexOutOfBoundsException") (by decide +kernel)
  refine lCallH (hh := [(0, 9, 12, 27)]) (bytes := cL_word) (mx := 4) (ret := (some .int)) (as := [.ref (adC 0), .int (xs (i + 1)), .ref o]) (rest := []) (n := 3) (K := fun k f1 g1 w1 => cI n 0 fc f1 g1) (hlp_word l hls0 D adC tc cA o sa H.size (fun hz => sfX8_word n 0 fc fC gC _ _ hz hc (fun y => ⟨y, rfl, hc⟩)) (fun _ => hc)) hT F (lGoodS goodH lA_H (lA_L0 _ (List.mem_of_getElem? (i := 66) (by decide +kernel))) (lA_L0 _ (List.mem_of_getElem? (i := 67) (by decide +kernel))) (lA_L0 _ (List.mem_of_getElem? (i := 13) (by decide +kernel))) (lA_L0 _ (List.mem_of_getElem? (i := 68) (by decide +kernel))) rfl) rfl rfl rfl (by decide +kernel) ⟨by decide, by decide⟩ rfl hl.1 (Nat.le_of_ble_eq_true rfl) dL_law_357 hcl hsl hP hD hS (fun k fC gC w1 H locs hk hP hD hS => ?_)
  have hc := hk
  refine lv_istore (lv' := [(5, .int k), (0, .ref b), (1, .ref (adC 0)), (2, .ref (adM 0)), (3, .ref o), (4, .int (nI i))]) hx hb dL_law_360 hl (by decide) rfl (fun ls hl => ?_)
  refine lv_aload_n hx hb dL_law_362 rfl (lv_at hl 3 rfl) ?_
  refine lv_aload_n hx hb dL_law_363 rfl (lv_at hl 1 rfl) ?_
  refine lv_iload hx hb dL_law_364 (lv_at hl 5 rfl) ?_
  refine lv_iconst (v := 1) hx hb dL_law_366 (by decide) ?_
  refine lv_iadd hx hb dL_law_367 ?_
  rw [show nI i + (1 : Int32) = nI (i + 1) from nI_add i 1]
  refine va_sld hx hb hX hbl hbA hS (vp_in_nI (n := i + 1) (N := L) (by omega) (by omega)) dL_law_368 ?_
  rw [nI_clamp (show i + 1 < 2 ^ 31 by omega)]
  refine lCallM (bytes := cX9_word) (mx := 2) (ret := (some .int)) (rm := rmX9_word) (av := [.inl (xs (i + 1))]) (rest := []) (n := 1) (K := fun r f1 g1 => (∃ y, r = some (.inl y)) ∧ rI n 8000 fr f1 g1) (metX9_word l D adM tc) (sfX9_word _ 8000 fr fM gM _ _ hr (fun y f1 g1 _ h => ⟨⟨y, rfl⟩, h⟩)) F (lGoodV goodM lA_M (lA_L0 _ (List.mem_of_getElem? (i := 69) (by decide +kernel))) (lA_L0 _ (List.mem_of_getElem? (i := 70) (by decide +kernel))) (lA_L0 _ (List.mem_of_getElem? (i := 71) (by decide +kernel))) (lA_L0 _ (List.mem_of_getElem? (i := 5) (by decide +kernel))) (lA_L0 _ (List.mem_of_getElem? (i := 72) (by decide +kernel))) rfl) rfl rfl rfl (by decide +kernel) ⟨by decide, by decide⟩ rfl hl.1 (Nat.le_of_ble_eq_true rfl) dL_law_369 hcl hsl hP hD hS (fun r fM gM H locs hk hP hD hS => ?_)
  obtain ⟨⟨y, rfl⟩, hr⟩ := hk
  refine lv_istore (lv' := [(6, .int y), (5, .int k), (0, .ref b), (1, .ref (adC 0)), (2, .ref (adM 0)), (3, .ref o), (4, .int (nI i))]) hx hb dL_law_372 hl (by decide) rfl (fun ls hl => ?_)
  refine lv_goto (tgt := 636) hx hb dL_law_374 (by decide) ?_
  exact kk H locs ls ⟨fC, gC, fM, gM, w1, fc, fr, n, lv_sub hl [2, 3, 4, 5, 6] rfl, hP, hD, hS, hc, hr, h70, h2, by omega⟩
set_option maxHeartbeats 4000000 in
set_option maxRecDepth 100000 in
theorem case_8 {p : Program} {l : Launch} {e : Env} {s : State} {m : MethodId} {below : List Frame} {meth : Method} {c : Code} {H : Heap} {locs : List Loc} {cells slots : Nat} {Q : State → Prop} {D : va_G} {tc : Nat → ClassId} {cA : ClassId} {adC adM : Nat → Nat} {o b L i : Nat} {xs : Nat → Int32} {ls : Array Slot} {N : Int} (hls0 : l.stackTraces = false) (F : lFix p s m b c L xs D tc cA) (hi : i + 7 ≤ L) (hL : L ≤ 3584) (hN : N + 400000 ≤ 300000000) (hcl : cells + 1 ≤ 601024) (hsl : slots + 6 ≤ 7293034) (hst : lSt D tc adC adM cA o b i s N H locs ls)
    (kk : ∀ (H : Heap) (locs : List Loc) (ls : Array Slot), lSt D tc adC adM cA o b i s (N + 400000) H locs ls → W p l e room_1 s m #[Value.ref b] below meth c H locs (cells + 1) (slots + 6) Q (F0 m 636 ls [])) : W p l e room_1 s m #[Value.ref b] below meth c H locs cells slots Q (F0 m 377 ls []) := by
  obtain ⟨hx, hb, hml, hown, hts, hK, hK2, hX, hbl, hTX⟩ := id F
  have hbA : ¬ (fun q : Nat => s.heap.size ≤ q) b := Nat.not_le.mpr hbl
  obtain ⟨fC, gC, fM, gM, w, fc, fr, n, hl, hP, hD, hS, hc, hr, h70, h2, hn⟩ := hst
  refine lv_aload_n hx hb dL_law_377 rfl (lv_at hl 1 rfl) ?_
  refine lv_aload_n hx hb dL_law_378 rfl (lv_at hl 0 rfl) ?_
  refine lv_iload hx hb dL_law_379 (lv_at hl 4 rfl) ?_
  refine lv_iconst (v := 1) hx hb dL_law_381 (by decide) ?_
  refine lv_iadd hx hb dL_law_382 ?_
  rw [show nI i + (1 : Int32) = nI (i + 1) from nI_add i 1]
  refine va_sld hx hb hX hbl hbA hS (vp_in_nI (n := i + 1) (N := L) (by omega) (by omega)) dL_law_383 ?_
  rw [nI_clamp (show i + 1 < 2 ^ 31 by omega)]
  refine lv_aload_n hx hb dL_law_384 rfl (lv_at hl 3 rfl) ?_
  obtain ⟨sa, hT⟩ := hTX (92, "no address of DATA", "java/lang/IndexOutOfBoundsException") (by decide +kernel)
  refine lCallH (hh := [(0, 9, 12, 27)]) (bytes := cL_data) (mx := 4) (ret := (some .int)) (as := [.ref (adC 0), .int (xs (i + 1)), .ref o]) (rest := []) (n := 3) (K := fun k f1 g1 w1 => cI n 0 fc f1 g1) (hlp_data l hls0 D adC tc cA o sa H.size (fun hz => sfX8_data n 0 fc fC gC _ _ hz hc (fun y f1 g1 h => ⟨y, rfl, h⟩)) (fun _ => hc)) hT F (lGoodS goodH lA_H (lA_L0 _ (List.mem_of_getElem? (i := 73) (by decide +kernel))) (lA_L0 _ (List.mem_of_getElem? (i := 74) (by decide +kernel))) (lA_L0 _ (List.mem_of_getElem? (i := 13) (by decide +kernel))) (lA_L0 _ (List.mem_of_getElem? (i := 75) (by decide +kernel))) rfl) rfl rfl rfl (by decide +kernel) ⟨by decide, by decide⟩ rfl hl.1 (Nat.le_of_ble_eq_true rfl) dL_law_385 hcl hsl hP hD hS (fun k fC gC w1 H locs hk hP hD hS => ?_)
  have hc := hk
  refine lv_istore (lv' := [(5, .int k), (0, .ref b), (1, .ref (adC 0)), (2, .ref (adM 0)), (3, .ref o), (4, .int (nI i))]) hx hb dL_law_388 hl (by decide) rfl (fun ls hl => ?_)
  refine lv_aload_n hx hb dL_law_390 rfl (lv_at hl 3 rfl) ?_
  refine lv_aload_n hx hb dL_law_391 rfl (lv_at hl 1 rfl) ?_
  refine lv_iload hx hb dL_law_392 (lv_at hl 5 rfl) ?_
  refine lv_iconst (v := 1) hx hb dL_law_394 (by decide) ?_
  refine lv_iadd hx hb dL_law_395 ?_
  rw [show nI i + (1 : Int32) = nI (i + 1) from nI_add i 1]
  refine va_sld hx hb hX hbl hbA hS (vp_in_nI (n := i + 1) (N := L) (by omega) (by omega)) dL_law_396 ?_
  rw [nI_clamp (show i + 1 < 2 ^ 31 by omega)]
  refine lCallM (bytes := cX9_data) (mx := 2) (ret := (some .int)) (rm := rmX9_data) (av := [.inl (xs (i + 1))]) (rest := []) (n := 1) (K := fun r f1 g1 => (∃ y, r = some (.inl y)) ∧ rI n 8000 fr f1 g1) (metX9_data l D adM tc) (sfX9_data _ 8000 fr fM gM _ _ hr (fun y f1 g1 _ h => ⟨⟨y, rfl⟩, h⟩)) F (lGoodV goodM lA_M (lA_L0 _ (List.mem_of_getElem? (i := 76) (by decide +kernel))) (lA_L0 _ (List.mem_of_getElem? (i := 77) (by decide +kernel))) (lA_L0 _ (List.mem_of_getElem? (i := 78) (by decide +kernel))) (lA_L0 _ (List.mem_of_getElem? (i := 5) (by decide +kernel))) (lA_L0 _ (List.mem_of_getElem? (i := 79) (by decide +kernel))) rfl) rfl rfl rfl (by decide +kernel) ⟨by decide, by decide⟩ rfl hl.1 (Nat.le_of_ble_eq_true rfl) dL_law_397 hcl hsl hP hD hS (fun r fM gM H locs hk hP hD hS => ?_)
  obtain ⟨⟨y, rfl⟩, hr⟩ := hk
  refine lv_istore (lv' := [(6, .int y), (5, .int k), (0, .ref b), (1, .ref (adC 0)), (2, .ref (adM 0)), (3, .ref o), (4, .int (nI i))]) hx hb dL_law_400 hl (by decide) rfl (fun ls hl => ?_)
  refine lv_goto (tgt := 636) hx hb dL_law_402 (by decide) ?_
  exact kk H locs ls ⟨fC, gC, fM, gM, w1, fc, fr, n, lv_sub hl [2, 3, 4, 5, 6] rfl, hP, hD, hS, hc, hr, h70, h2, by omega⟩
set_option maxHeartbeats 4000000 in
set_option maxRecDepth 100000 in
theorem case_9 {p : Program} {l : Launch} {e : Env} {s : State} {m : MethodId} {below : List Frame} {meth : Method} {c : Code} {H : Heap} {locs : List Loc} {cells slots : Nat} {Q : State → Prop} {D : va_G} {tc : Nat → ClassId} {cA : ClassId} {adC adM : Nat → Nat} {o b L i : Nat} {xs : Nat → Int32} {ls : Array Slot} {N : Int} (hls0 : l.stackTraces = false) (F : lFix p s m b c L xs D tc cA) (hi : i + 7 ≤ L) (hL : L ≤ 3584) (hN : N + 400000 ≤ 300000000) (hcl : cells + 1 ≤ 601024) (hsl : slots + 6 ≤ 7293034) (hst : lSt D tc adC adM cA o b i s N H locs ls)
    (kk : ∀ (H : Heap) (locs : List Loc) (ls : Array Slot), lSt D tc adC adM cA o b i s (N + 400000) H locs ls → W p l e room_1 s m #[Value.ref b] below meth c H locs (cells + 1) (slots + 6) Q (F0 m 636 ls [])) : W p l e room_1 s m #[Value.ref b] below meth c H locs cells slots Q (F0 m 405 ls []) := by
  obtain ⟨hx, hb, hml, hown, hts, hK, hK2, hX, hbl, hTX⟩ := id F
  have hbA : ¬ (fun q : Nat => s.heap.size ≤ q) b := Nat.not_le.mpr hbl
  obtain ⟨fC, gC, fM, gM, w, fc, fr, n, hl, hP, hD, hS, hc, hr, h70, h2, hn⟩ := hst
  refine lv_aload_n hx hb dL_law_405 rfl (lv_at hl 1 rfl) ?_
  refine lv_aload_n hx hb dL_law_406 rfl (lv_at hl 0 rfl) ?_
  refine lv_iload hx hb dL_law_407 (lv_at hl 4 rfl) ?_
  refine lv_iconst (v := 1) hx hb dL_law_409 (by decide) ?_
  refine lv_iadd hx hb dL_law_410 ?_
  rw [show nI i + (1 : Int32) = nI (i + 1) from nI_add i 1]
  refine va_sld hx hb hX hbl hbA hS (vp_in_nI (n := i + 1) (N := L) (by omega) (by omega)) dL_law_411 ?_
  rw [nI_clamp (show i + 1 < 2 ^ 31 by omega)]
  refine lv_aload_n hx hb dL_law_412 rfl (lv_at hl 0 rfl) ?_
  refine lv_iload hx hb dL_law_413 (lv_at hl 4 rfl) ?_
  refine lv_iconst (v := 2) hx hb dL_law_415 (by decide) ?_
  refine lv_iadd hx hb dL_law_416 ?_
  rw [show nI i + (2 : Int32) = nI (i + 2) from nI_add i 2]
  refine va_sld hx hb hX hbl hbA hS (vp_in_nI (n := i + 2) (N := L) (by omega) (by omega)) dL_law_417 ?_
  rw [nI_clamp (show i + 2 < 2 ^ 31 by omega)]
  obtain ⟨sa, hT⟩ := hTX (103, "no register, SP, SREG or RAM", "java/lang/IndexOutOfBoundsException") (by decide +kernel)
  refine lCallH (hh := [(0, 6, 9, 27)]) (bytes := cL_put) (mx := 4) (ret := (some .int)) (as := [.ref (adC 0), .int (xs (i + 1)), .int (xs (i + 2))]) (rest := []) (n := 3) (K := fun k f1 g1 w1 => cI n 0 fc f1 g1 ∧ ((vPut ((xs (i + 1))) ∧ k = 0) ∨ (¬ vPut ((xs (i + 1))) ∧ k = 1))) (hlp_put l hls0 D adC tc cA o sa H.size (fun hz => sfX8_put n 0 fc fC gC _ _ _ hz hc (fun g1 h => ⟨rfl, h, Or.inl ⟨hz, rfl⟩⟩)) (fun hz => ⟨hc, Or.inr ⟨hz, rfl⟩⟩)) hT F (lGoodS goodH lA_H (lA_L0 _ (List.mem_of_getElem? (i := 80) (by decide +kernel))) (lA_L0 _ (List.mem_of_getElem? (i := 81) (by decide +kernel))) (lA_L0 _ (List.mem_of_getElem? (i := 13) (by decide +kernel))) (lA_L0 _ (List.mem_of_getElem? (i := 82) (by decide +kernel))) rfl) rfl rfl rfl (by decide +kernel) ⟨by decide, by decide⟩ rfl hl.1 (Nat.le_of_ble_eq_true rfl) dL_law_418 hcl hsl hP hD hS (fun k fC gC w1 H locs hk hP hD hS => ?_)
  obtain ⟨hc, hk⟩ := hk
  have hk0 := hk
  refine lv_istore (lv' := [(5, .int k), (0, .ref b), (1, .ref (adC 0)), (2, .ref (adM 0)), (3, .ref o), (4, .int (nI i))]) hx hb dL_law_421 hl (by decide) rfl (fun ls hl => ?_)
  refine lv_aload_n hx hb dL_law_423 rfl (lv_at hl 3 rfl) ?_
  refine lv_aload_n hx hb dL_law_424 rfl (lv_at hl 1 rfl) ?_
  refine lv_iload hx hb dL_law_425 (lv_at hl 5 rfl) ?_
  refine lv_iconst (v := 1) hx hb dL_law_427 (by decide) ?_
  refine lv_iadd hx hb dL_law_428 ?_
  rw [show nI i + (1 : Int32) = nI (i + 1) from nI_add i 1]
  refine va_sld hx hb hX hbl hbA hS (vp_in_nI (n := i + 1) (N := L) (by omega) (by omega)) dL_law_429 ?_
  rw [nI_clamp (show i + 1 < 2 ^ 31 by omega)]
  refine lv_aload_n hx hb dL_law_430 rfl (lv_at hl 1 rfl) ?_
  refine lv_iload hx hb dL_law_431 (lv_at hl 5 rfl) ?_
  refine lv_iconst (v := 2) hx hb dL_law_433 (by decide) ?_
  refine lv_iadd hx hb dL_law_434 ?_
  rw [show nI i + (2 : Int32) = nI (i + 2) from nI_add i 2]
  refine va_sld hx hb hX hbl hbA hS (vp_in_nI (n := i + 2) (N := L) (by omega) (by omega)) dL_law_435 ?_
  rw [nI_clamp (show i + 2 < 2 ^ 31 by omega)]
  refine lCallM (bytes := cX9_put) (mx := 3) (ret := none) (rm := rmX9_put) (av := [.inl (xs (i + 1)), .inl (xs (i + 2))]) (rest := []) (n := 2) (K := fun r f1 g1 => r = none ∧ (vPut (xs (i + 1)) → f1 0 = 0) ∧ (¬ vPut (xs (i + 1)) → f1 0 = 1) ∧ rI n 8000 fr f1 g1) (metX9_put l D adM tc) (sfX9_put _ 8000 fr fM gM _ _ _ hr (fun f1 g1 ha hb h => ⟨rfl, ha, hb, h⟩)) F (lGoodV goodM lA_M (lA_L0 _ (List.mem_of_getElem? (i := 83) (by decide +kernel))) (lA_L0 _ (List.mem_of_getElem? (i := 84) (by decide +kernel))) (lA_L0 _ (List.mem_of_getElem? (i := 85) (by decide +kernel))) (lA_L0 _ (List.mem_of_getElem? (i := 5) (by decide +kernel))) (lA_L0 _ (List.mem_of_getElem? (i := 86) (by decide +kernel))) rfl) rfl rfl rfl (by decide +kernel) ⟨by decide, by decide⟩ rfl hl.1 (Nat.le_of_ble_eq_true rfl) dL_law_436 hcl hsl hP hD hS (fun r fM gM H locs hk hP hD hS => ?_)
  obtain ⟨rfl, hya, hyb, hr⟩ := hk
  have hTh : fM 0 = k := by
    rcases hk0 with ⟨hz, rfl⟩ | ⟨hz, rfl⟩
    · exact hya hz
    · exact hyb hz
  refine lv_goto (tgt := 636) hx hb dL_law_439 (by decide) ?_
  exact kk H locs ls ⟨fC, gC, fM, gM, w1, fc, fr, n, lv_sub hl [1, 2, 3, 4, 5] rfl, hP, hD, hS, hc, hr, h70, h2, by omega⟩
set_option maxHeartbeats 4000000 in
set_option maxRecDepth 100000 in
theorem case_10 {p : Program} {l : Launch} {e : Env} {s : State} {m : MethodId} {below : List Frame} {meth : Method} {c : Code} {H : Heap} {locs : List Loc} {cells slots : Nat} {Q : State → Prop} {D : va_G} {tc : Nat → ClassId} {cA : ClassId} {adC adM : Nat → Nat} {o b L i : Nat} {xs : Nat → Int32} {ls : Array Slot} {N : Int} (hls0 : l.stackTraces = false) (F : lFix p s m b c L xs D tc cA) (hi : i + 7 ≤ L) (hL : L ≤ 3584) (hN : N + 400000 ≤ 300000000) (hcl : cells + 1 ≤ 601024) (hsl : slots + 6 ≤ 7293034) (hst : lSt D tc adC adM cA o b i s N H locs ls)
    (kk : ∀ (H : Heap) (locs : List Loc) (ls : Array Slot), lSt D tc adC adM cA o b i s (N + 400000) H locs ls → W p l e room_1 s m #[Value.ref b] below meth c H locs (cells + 1) (slots + 6) Q (F0 m 636 ls [])) : W p l e room_1 s m #[Value.ref b] below meth c H locs cells slots Q (F0 m 442 ls []) := by
  obtain ⟨hx, hb, hml, hown, hts, hK, hK2, hX, hbl, hTX⟩ := id F
  have hbA : ¬ (fun q : Nat => s.heap.size ≤ q) b := Nat.not_le.mpr hbl
  obtain ⟨fC, gC, fM, gM, w, fc, fr, n, hl, hP, hD, hS, hc, hr, h70, h2, hn⟩ := hst
  refine lv_aload_n hx hb dL_law_442 rfl (lv_at hl 1 rfl) ?_
  refine lv_aload_n hx hb dL_law_443 rfl (lv_at hl 0 rfl) ?_
  refine lv_iload hx hb dL_law_444 (lv_at hl 4 rfl) ?_
  refine lv_iconst (v := 1) hx hb dL_law_446 (by decide) ?_
  refine lv_iadd hx hb dL_law_447 ?_
  rw [show nI i + (1 : Int32) = nI (i + 1) from nI_add i 1]
  refine va_sld hx hb hX hbl hbA hS (vp_in_nI (n := i + 1) (N := L) (by omega) (by omega)) dL_law_448 ?_
  rw [nI_clamp (show i + 1 < 2 ^ 31 by omega)]
  refine lv_aload_n hx hb dL_law_449 rfl (lv_at hl 3 rfl) ?_
  obtain ⟨sa, hT⟩ := hTX (117, "no address of the EEPROM", "java/lang/IndexOutOfBoundsException") (by decide +kernel)
  refine lCallH (hh := [(0, 9, 12, 27)]) (bytes := cL_eeprom) (mx := 4) (ret := (some .int)) (as := [.ref (adC 0), .int (xs (i + 1)), .ref o]) (rest := []) (n := 3) (K := fun k f1 g1 w1 => cI n 0 fc f1 g1) (hlp_eeprom l hls0 D adC tc cA o sa H.size (fun hz => sfX8_eeprom n 0 fc fC gC _ _ hz hc (fun y => ⟨y, rfl, hc⟩)) (fun _ => hc)) hT F (lGoodS goodH lA_H (lA_L0 _ (List.mem_of_getElem? (i := 87) (by decide +kernel))) (lA_L0 _ (List.mem_of_getElem? (i := 88) (by decide +kernel))) (lA_L0 _ (List.mem_of_getElem? (i := 13) (by decide +kernel))) (lA_L0 _ (List.mem_of_getElem? (i := 89) (by decide +kernel))) rfl) rfl rfl rfl (by decide +kernel) ⟨by decide, by decide⟩ rfl hl.1 (Nat.le_of_ble_eq_true rfl) dL_law_450 hcl hsl hP hD hS (fun k fC gC w1 H locs hk hP hD hS => ?_)
  have hc := hk
  refine lv_istore (lv' := [(5, .int k), (0, .ref b), (1, .ref (adC 0)), (2, .ref (adM 0)), (3, .ref o), (4, .int (nI i))]) hx hb dL_law_453 hl (by decide) rfl (fun ls hl => ?_)
  refine lv_aload_n hx hb dL_law_455 rfl (lv_at hl 3 rfl) ?_
  refine lv_aload_n hx hb dL_law_456 rfl (lv_at hl 1 rfl) ?_
  refine lv_iload hx hb dL_law_457 (lv_at hl 5 rfl) ?_
  refine lv_iconst (v := 1) hx hb dL_law_459 (by decide) ?_
  refine lv_iadd hx hb dL_law_460 ?_
  rw [show nI i + (1 : Int32) = nI (i + 1) from nI_add i 1]
  refine va_sld hx hb hX hbl hbA hS (vp_in_nI (n := i + 1) (N := L) (by omega) (by omega)) dL_law_461 ?_
  rw [nI_clamp (show i + 1 < 2 ^ 31 by omega)]
  refine lCallM (bytes := cX9_eeprom) (mx := 2) (ret := (some .int)) (rm := rmX9_eeprom) (av := [.inl (xs (i + 1))]) (rest := []) (n := 1) (K := fun r f1 g1 => (∃ y, r = some (.inl y)) ∧ rI n 8000 fr f1 g1) (metX9_eeprom l D adM tc) (sfX9_eeprom _ 8000 fr fM gM _ _ hr (fun y f1 g1 _ h => ⟨⟨y, rfl⟩, h⟩)) F (lGoodV goodM lA_M (lA_L0 _ (List.mem_of_getElem? (i := 90) (by decide +kernel))) (lA_L0 _ (List.mem_of_getElem? (i := 91) (by decide +kernel))) (lA_L0 _ (List.mem_of_getElem? (i := 92) (by decide +kernel))) (lA_L0 _ (List.mem_of_getElem? (i := 5) (by decide +kernel))) (lA_L0 _ (List.mem_of_getElem? (i := 93) (by decide +kernel))) rfl) rfl rfl rfl (by decide +kernel) ⟨by decide, by decide⟩ rfl hl.1 (Nat.le_of_ble_eq_true rfl) dL_law_462 hcl hsl hP hD hS (fun r fM gM H locs hk hP hD hS => ?_)
  obtain ⟨⟨y, rfl⟩, hr⟩ := hk
  refine lv_istore (lv' := [(6, .int y), (5, .int k), (0, .ref b), (1, .ref (adC 0)), (2, .ref (adM 0)), (3, .ref o), (4, .int (nI i))]) hx hb dL_law_465 hl (by decide) rfl (fun ls hl => ?_)
  refine lv_goto (tgt := 636) hx hb dL_law_467 (by decide) ?_
  exact kk H locs ls ⟨fC, gC, fM, gM, w1, fc, fr, n, lv_sub hl [2, 3, 4, 5, 6] rfl, hP, hD, hS, hc, hr, h70, h2, by omega⟩
set_option maxHeartbeats 4000000 in
set_option maxRecDepth 100000 in
theorem case_11 {p : Program} {l : Launch} {e : Env} {s : State} {m : MethodId} {below : List Frame} {meth : Method} {c : Code} {H : Heap} {locs : List Loc} {cells slots : Nat} {Q : State → Prop} {D : va_G} {tc : Nat → ClassId} {cA : ClassId} {adC adM : Nat → Nat} {o b L i : Nat} {xs : Nat → Int32} {ls : Array Slot} {N : Int} (hls0 : l.stackTraces = false) (F : lFix p s m b c L xs D tc cA) (hi : i + 7 ≤ L) (hL : L ≤ 3584) (hN : N + 400000 ≤ 300000000) (hcl : cells + 1 ≤ 601024) (hsl : slots + 6 ≤ 7293034) (hst : lSt D tc adC adM cA o b i s N H locs ls)
    (kk : ∀ (H : Heap) (locs : List Loc) (ls : Array Slot), lSt D tc adC adM cA o b i s (N + 400000) H locs ls → W p l e room_1 s m #[Value.ref b] below meth c H locs (cells + 1) (slots + 6) Q (F0 m 636 ls [])) : W p l e room_1 s m #[Value.ref b] below meth c H locs cells slots Q (F0 m 470 ls []) := by
  obtain ⟨hx, hb, hml, hown, hts, hK, hK2, hX, hbl, hTX⟩ := id F
  have hbA : ¬ (fun q : Nat => s.heap.size ≤ q) b := Nat.not_le.mpr hbl
  obtain ⟨fC, gC, fM, gM, w, fc, fr, n, hl, hP, hD, hS, hc, hr, h70, h2, hn⟩ := hst
  refine lv_aload_n hx hb dL_law_470 rfl (lv_at hl 1 rfl) ?_
  refine lv_aload_n hx hb dL_law_471 rfl (lv_at hl 0 rfl) ?_
  refine lv_iload hx hb dL_law_472 (lv_at hl 4 rfl) ?_
  refine lv_iconst (v := 1) hx hb dL_law_474 (by decide) ?_
  refine lv_iadd hx hb dL_law_475 ?_
  rw [show nI i + (1 : Int32) = nI (i + 1) from nI_add i 1]
  refine va_sld hx hb hX hbl hbA hS (vp_in_nI (n := i + 1) (N := L) (by omega) (by omega)) dL_law_476 ?_
  rw [nI_clamp (show i + 1 < 2 ^ 31 by omega)]
  refine lCallC (bytes := cX8_pins) (mx := 3) (ret := (some .int)) (rm := rmX8_pins) (av := [.inl (xs (i + 1))]) (rest := []) (n := 1) (K := fun r f1 g1 => r = some (.inl (fc 70)) ∧ cI n 0 (upd fc 70 ((xs (i + 1)) &&& 255)) f1 g1) (metX8_pins l D adC tc) (sfX8_pins _ 0 fc fC gC _ _ hc (fun f1 h => ⟨rfl, h⟩)) F (lGoodV goodC lA_C (lA_L0 _ (List.mem_of_getElem? (i := 94) (by decide +kernel))) (lA_L0 _ (List.mem_of_getElem? (i := 95) (by decide +kernel))) (lA_L0 _ (List.mem_of_getElem? (i := 96) (by decide +kernel))) (lA_L0 _ (List.mem_of_getElem? (i := 2) (by decide +kernel))) (lA_L0 _ (List.mem_of_getElem? (i := 97) (by decide +kernel))) rfl) rfl rfl rfl (by decide +kernel) ⟨by decide, by decide⟩ rfl hl.1 (Nat.le_of_ble_eq_true rfl) dL_law_477 (Nat.le_of_succ_le hcl) (Nat.le_trans (Nat.le_add_right _ 6) hsl) hP hD hS (fun r fC gC H locs hk hP hD hS => ?_)
  obtain ⟨rfl, hc⟩ := hk
  refine lv_pop hx hb dL_law_480 rfl ?_
  refine lv_aload_n hx hb dL_law_481 rfl (lv_at hl 2 rfl) ?_
  refine lv_aload_n hx hb dL_law_482 rfl (lv_at hl 0 rfl) ?_
  refine lv_iload hx hb dL_law_483 (lv_at hl 4 rfl) ?_
  refine lv_iconst (v := 1) hx hb dL_law_485 (by decide) ?_
  refine lv_iadd hx hb dL_law_486 ?_
  rw [show nI i + (1 : Int32) = nI (i + 1) from nI_add i 1]
  refine va_sld hx hb hX hbl hbA hS (vp_in_nI (n := i + 1) (N := L) (by omega) (by omega)) dL_law_487 ?_
  rw [nI_clamp (show i + 1 < 2 ^ 31 by omega)]
  refine lCallM (bytes := cX9_pins) (mx := 3) (ret := (some .int)) (rm := rmX9_pins) (av := [.inl (xs (i + 1))]) (rest := []) (n := 1) (K := fun r f1 g1 => r = some (.inl (fr 8)) ∧ rI n 8000 (upd fr 8 ((xs (i + 1)) &&& 255)) f1 g1) (metX9_pins l D adM tc) (sfX9_pins _ 8000 fr fM gM _ _ hr (fun f1 h => ⟨rfl, h⟩)) F (lGoodV goodM lA_M (lA_L0 _ (List.mem_of_getElem? (i := 98) (by decide +kernel))) (lA_L0 _ (List.mem_of_getElem? (i := 99) (by decide +kernel))) (lA_L0 _ (List.mem_of_getElem? (i := 100) (by decide +kernel))) (lA_L0 _ (List.mem_of_getElem? (i := 5) (by decide +kernel))) (lA_L0 _ (List.mem_of_getElem? (i := 101) (by decide +kernel))) rfl) rfl rfl rfl (by decide +kernel) ⟨by decide, by decide⟩ rfl hl.1 (Nat.le_of_ble_eq_true rfl) dL_law_488 (Nat.le_of_succ_le hcl) (Nat.le_trans (Nat.le_add_right _ 6) hsl) hP hD hS (fun r fM gM H locs hk hP hD hS => ?_)
  obtain ⟨rfl, hr⟩ := hk
  refine lv_pop hx hb dL_law_491 rfl ?_
  refine lv_goto (tgt := 636) hx hb dL_law_492 (by decide) ?_
  refine W.widen (k := cells + 1) (n := slots + 6) (by omega) (by omega) ?_
  exact kk H locs ls ⟨fC, gC, fM, gM, w, (upd fc 70 ((xs (i + 1)) &&& 255)), (upd fr 8 ((xs (i + 1)) &&& 255)), n, lv_sub hl [0, 1, 2, 3, 4] rfl, hP, hD, hS, hc, hr, by rw [pk_us, pk_us], by rw [pk_un (by decide), pk_un (by decide)]; exact h2, by omega⟩
set_option maxHeartbeats 4000000 in
set_option maxRecDepth 100000 in
theorem case_12 {p : Program} {l : Launch} {e : Env} {s : State} {m : MethodId} {below : List Frame} {meth : Method} {c : Code} {H : Heap} {locs : List Loc} {cells slots : Nat} {Q : State → Prop} {D : va_G} {tc : Nat → ClassId} {cA : ClassId} {adC adM : Nat → Nat} {o b L i : Nat} {xs : Nat → Int32} {ls : Array Slot} {N : Int} (hls0 : l.stackTraces = false) (F : lFix p s m b c L xs D tc cA) (hi : i + 7 ≤ L) (hL : L ≤ 3584) (hN : N + 400000 ≤ 300000000) (hcl : cells + 1 ≤ 601024) (hsl : slots + 6 ≤ 7293034) (hst : lSt D tc adC adM cA o b i s N H locs ls)
    (kk : ∀ (H : Heap) (locs : List Loc) (ls : Array Slot), lSt D tc adC adM cA o b i s (N + 400000) H locs ls → W p l e room_1 s m #[Value.ref b] below meth c H locs (cells + 1) (slots + 6) Q (F0 m 636 ls [])) : W p l e room_1 s m #[Value.ref b] below meth c H locs cells slots Q (F0 m 495 ls []) := by
  obtain ⟨hx, hb, hml, hown, hts, hK, hK2, hX, hbl, hTX⟩ := id F
  have hbA : ¬ (fun q : Nat => s.heap.size ≤ q) b := Nat.not_le.mpr hbl
  obtain ⟨fC, gC, fM, gM, w, fc, fr, n, hl, hP, hD, hS, hc, hr, h70, h2, hn⟩ := hst
  refine lv_aload_n hx hb dL_law_495 rfl (lv_at hl 1 rfl) ?_
  refine lv_aload_n hx hb dL_law_496 rfl (lv_at hl 0 rfl) ?_
  refine lv_iload hx hb dL_law_497 (lv_at hl 4 rfl) ?_
  refine lv_iconst (v := 1) hx hb dL_law_499 (by decide) ?_
  refine lv_iadd hx hb dL_law_500 ?_
  rw [show nI i + (1 : Int32) = nI (i + 1) from nI_add i 1]
  refine va_sld hx hb hX hbl hbA hS (vp_in_nI (n := i + 1) (N := L) (by omega) (by omega)) dL_law_501 ?_
  rw [nI_clamp (show i + 1 < 2 ^ 31 by omega)]
  refine lCallC (bytes := cX8_fuses) (mx := 4) (ret := (some .int)) (rm := rmX8_fuses) (av := [.inl (xs (i + 1))]) (rest := []) (n := 1) (K := fun r f1 g1 => (∃ y, r = some (.inl y)) ∧ cI n 0 fc f1 g1) (metX8_fuses l D adC tc) (sfX8_fuses _ 0 fc fC gC _ _ hc (fun y f1 g1 h => ⟨⟨y, rfl⟩, h⟩)) F (lGoodV goodC lA_C (lA_L0 _ (List.mem_of_getElem? (i := 102) (by decide +kernel))) (lA_L0 _ (List.mem_of_getElem? (i := 103) (by decide +kernel))) (lA_L0 _ (List.mem_of_getElem? (i := 104) (by decide +kernel))) (lA_L0 _ (List.mem_of_getElem? (i := 2) (by decide +kernel))) (lA_L0 _ (List.mem_of_getElem? (i := 105) (by decide +kernel))) rfl) rfl rfl rfl (by decide +kernel) ⟨by decide, by decide⟩ rfl hl.1 (Nat.le_of_ble_eq_true rfl) dL_law_502 (Nat.le_of_succ_le hcl) (Nat.le_trans (Nat.le_add_right _ 6) hsl) hP hD hS (fun r fC gC H locs hk hP hD hS => ?_)
  obtain ⟨⟨y, rfl⟩, hc⟩ := hk
  refine lv_pop hx hb dL_law_505 rfl ?_
  refine lv_aload_n hx hb dL_law_506 rfl (lv_at hl 2 rfl) ?_
  refine lv_aload_n hx hb dL_law_507 rfl (lv_at hl 0 rfl) ?_
  refine lv_iload hx hb dL_law_508 (lv_at hl 4 rfl) ?_
  refine lv_iconst (v := 1) hx hb dL_law_510 (by decide) ?_
  refine lv_iadd hx hb dL_law_511 ?_
  rw [show nI i + (1 : Int32) = nI (i + 1) from nI_add i 1]
  refine va_sld hx hb hX hbl hbA hS (vp_in_nI (n := i + 1) (N := L) (by omega) (by omega)) dL_law_512 ?_
  rw [nI_clamp (show i + 1 < 2 ^ 31 by omega)]
  refine lCallM (bytes := cX9_fuses) (mx := 3) (ret := (some .int)) (rm := rmX9_fuses) (av := [.inl (xs (i + 1))]) (rest := []) (n := 1) (K := fun r f1 g1 => (∃ y, r = some (.inl y)) ∧ rI n 8000 fr f1 g1) (metX9_fuses l D adM tc) (sfX9_fuses _ 8000 fr fM gM _ _ hr (fun y f1 g1 _ h => ⟨⟨y, rfl⟩, h⟩)) F (lGoodV goodM lA_M (lA_L0 _ (List.mem_of_getElem? (i := 106) (by decide +kernel))) (lA_L0 _ (List.mem_of_getElem? (i := 107) (by decide +kernel))) (lA_L0 _ (List.mem_of_getElem? (i := 108) (by decide +kernel))) (lA_L0 _ (List.mem_of_getElem? (i := 5) (by decide +kernel))) (lA_L0 _ (List.mem_of_getElem? (i := 109) (by decide +kernel))) rfl) rfl rfl rfl (by decide +kernel) ⟨by decide, by decide⟩ rfl hl.1 (Nat.le_of_ble_eq_true rfl) dL_law_513 (Nat.le_of_succ_le hcl) (Nat.le_trans (Nat.le_add_right _ 6) hsl) hP hD hS (fun r fM gM H locs hk hP hD hS => ?_)
  obtain ⟨⟨y, rfl⟩, hr⟩ := hk
  refine lv_pop hx hb dL_law_516 rfl ?_
  refine lv_goto (tgt := 636) hx hb dL_law_517 (by decide) ?_
  refine W.widen (k := cells + 1) (n := slots + 6) (by omega) (by omega) ?_
  exact kk H locs ls ⟨fC, gC, fM, gM, w, fc, fr, n, lv_sub hl [0, 1, 2, 3, 4] rfl, hP, hD, hS, hc, hr, h70, h2, by omega⟩
set_option maxHeartbeats 4000000 in
set_option maxRecDepth 100000 in
theorem case_13 {p : Program} {l : Launch} {e : Env} {s : State} {m : MethodId} {below : List Frame} {meth : Method} {c : Code} {H : Heap} {locs : List Loc} {cells slots : Nat} {Q : State → Prop} {D : va_G} {tc : Nat → ClassId} {cA : ClassId} {adC adM : Nat → Nat} {o b L i : Nat} {xs : Nat → Int32} {ls : Array Slot} {N : Int} (hls0 : l.stackTraces = false) (F : lFix p s m b c L xs D tc cA) (hi : i + 7 ≤ L) (hL : L ≤ 3584) (hN : N + 400000 ≤ 300000000) (hcl : cells + 1 ≤ 601024) (hsl : slots + 6 ≤ 7293034) (hst : lSt D tc adC adM cA o b i s N H locs ls)
    (kk : ∀ (H : Heap) (locs : List Loc) (ls : Array Slot), lSt D tc adC adM cA o b i s (N + 400000) H locs ls → W p l e room_1 s m #[Value.ref b] below meth c H locs (cells + 1) (slots + 6) Q (F0 m 636 ls [])) : W p l e room_1 s m #[Value.ref b] below meth c H locs cells slots Q (F0 m 520 ls []) := by
  obtain ⟨hx, hb, hml, hown, hts, hK, hK2, hX, hbl, hTX⟩ := id F
  have hbA : ¬ (fun q : Nat => s.heap.size ≤ q) b := Nat.not_le.mpr hbl
  obtain ⟨fC, gC, fM, gM, w, fc, fr, n, hl, hP, hD, hS, hc, hr, h70, h2, hn⟩ := hst
  refine lv_aload_n hx hb dL_law_520 rfl (lv_at hl 1 rfl) ?_
  refine lv_aload_n hx hb dL_law_521 rfl (lv_at hl 0 rfl) ?_
  refine lv_iload hx hb dL_law_522 (lv_at hl 4 rfl) ?_
  refine lv_iconst (v := 1) hx hb dL_law_524 (by decide) ?_
  refine lv_iadd hx hb dL_law_525 ?_
  rw [show nI i + (1 : Int32) = nI (i + 1) from nI_add i 1]
  refine va_sld hx hb hX hbl hbA hS (vp_in_nI (n := i + 1) (N := L) (by omega) (by omega)) dL_law_526 ?_
  rw [nI_clamp (show i + 1 < 2 ^ 31 by omega)]
  obtain ⟨sa, hT⟩ := hTX (76, "no address of FLASH", "java/lang/IndexOutOfBoundsException") (by decide +kernel)
  refine lCallH (hh := [(0, 5, 8, 27)]) (bytes := cL_start) (mx := 3) (ret := (some .int)) (as := [.ref (adC 0), .int (xs (i + 1))]) (rest := []) (n := 2) (K := fun k f1 g1 w1 => cI n 0 fc f1 g1 ∧ ((rg 0 2047 ((xs (i + 1))) ∧ k = 0) ∨ (¬ rg 0 2047 ((xs (i + 1))) ∧ k = 1))) (hlp_start l hls0 D adC tc cA o sa H.size (fun hz => sfX8_start n 0 fc fC gC _ _ hz hc (fun f1 g1 h => ⟨rfl, h, Or.inl ⟨hz, rfl⟩⟩)) (fun hz => ⟨hc, Or.inr ⟨hz, rfl⟩⟩)) hT F (lGoodS goodH lA_H (lA_L0 _ (List.mem_of_getElem? (i := 110) (by decide +kernel))) (lA_L0 _ (List.mem_of_getElem? (i := 111) (by decide +kernel))) (lA_L0 _ (List.mem_of_getElem? (i := 13) (by decide +kernel))) (lA_L0 _ (List.mem_of_getElem? (i := 112) (by decide +kernel))) rfl) rfl rfl rfl (by decide +kernel) ⟨by decide, by decide⟩ rfl hl.1 (Nat.le_of_ble_eq_true rfl) dL_law_527 hcl hsl hP hD hS (fun k fC gC w1 H locs hk hP hD hS => ?_)
  obtain ⟨hc, hk⟩ := hk
  have hk0 := hk
  refine lv_istore (lv' := [(5, .int k), (0, .ref b), (1, .ref (adC 0)), (2, .ref (adM 0)), (3, .ref o), (4, .int (nI i))]) hx hb dL_law_530 hl (by decide) rfl (fun ls hl => ?_)
  refine lv_aload_n hx hb dL_law_532 rfl (lv_at hl 3 rfl) ?_
  refine lv_aload_n hx hb dL_law_533 rfl (lv_at hl 1 rfl) ?_
  refine lv_iload hx hb dL_law_534 (lv_at hl 5 rfl) ?_
  refine lv_iconst (v := 1) hx hb dL_law_536 (by decide) ?_
  refine lv_iadd hx hb dL_law_537 ?_
  rw [show nI i + (1 : Int32) = nI (i + 1) from nI_add i 1]
  refine va_sld hx hb hX hbl hbA hS (vp_in_nI (n := i + 1) (N := L) (by omega) (by omega)) dL_law_538 ?_
  rw [nI_clamp (show i + 1 < 2 ^ 31 by omega)]
  refine lCallM (bytes := cX9_start) (mx := 2) (ret := none) (rm := rmX9_start) (av := [.inl (xs (i + 1))]) (rest := []) (n := 1) (K := fun r f1 g1 => r = none ∧ (rg 0 2047 (xs (i + 1)) → f1 0 = 0) ∧ (¬ rg 0 2047 (xs (i + 1)) → f1 0 = 1) ∧ rI n 8000 fr f1 g1) (metX9_start l D adM tc) (sfX9_start _ 8000 fr fM gM _ _ hr (fun f1 g1 ha hb h => ⟨rfl, ha, hb, h⟩)) F (lGoodV goodM lA_M (lA_L0 _ (List.mem_of_getElem? (i := 113) (by decide +kernel))) (lA_L0 _ (List.mem_of_getElem? (i := 114) (by decide +kernel))) (lA_L0 _ (List.mem_of_getElem? (i := 115) (by decide +kernel))) (lA_L0 _ (List.mem_of_getElem? (i := 5) (by decide +kernel))) (lA_L0 _ (List.mem_of_getElem? (i := 116) (by decide +kernel))) rfl) rfl rfl rfl (by decide +kernel) ⟨by decide, by decide⟩ rfl hl.1 (Nat.le_of_ble_eq_true rfl) dL_law_539 hcl hsl hP hD hS (fun r fM gM H locs hk hP hD hS => ?_)
  obtain ⟨rfl, hya, hyb, hr⟩ := hk
  have hTh : fM 0 = k := by
    rcases hk0 with ⟨hz, rfl⟩ | ⟨hz, rfl⟩
    · exact hya hz
    · exact hyb hz
  refine lv_aload_n hx hb dL_law_542 rfl (lv_at hl 3 rfl) ?_
  refine lCallM (bytes := cX9_thrown) (mx := 1) (ret := (some .int)) (rm := rmX9_thrown) (av := []) (rest := []) (n := 0) (K := fun r f1 g1 => r = some (.inl (fM 0)) ∧ f1 = fM ∧ g1 = gM) (metX9_thrown l D adM tc) (sfX9_thrown fM gM _ ⟨rfl, rfl, rfl⟩) F (lGoodV goodM lA_M (lA_L0 _ (List.mem_of_getElem? (i := 117) (by decide +kernel))) (lA_L0 _ (List.mem_of_getElem? (i := 118) (by decide +kernel))) (lA_L0 _ (List.mem_of_getElem? (i := 119) (by decide +kernel))) (lA_L0 _ (List.mem_of_getElem? (i := 5) (by decide +kernel))) (lA_L0 _ (List.mem_of_getElem? (i := 120) (by decide +kernel))) rfl) rfl rfl rfl (by decide +kernel) ⟨by decide, by decide⟩ rfl hl.1 (Nat.le_of_ble_eq_true rfl) dL_law_543 hcl hsl hP hD hS (fun r f1 g1 H locs hk hP hD hS => ?_)
  obtain ⟨hr9, hf9, hg9⟩ := hk
  rw [hf9, hg9] at hP hD
  subst hr9
  refine lv_iload hx hb dL_law_546 (lv_at hl 0 rfl) ?_
  refine lv_icmp_eq (tgt := 553) hx hb dL_law_548 (by decide) (fun _ => ?_) (fun z => absurd hTh z)
  refine lv_goto (tgt := 636) hx hb dL_law_553 (by decide) ?_
  exact kk H locs ls ⟨fC, gC, fM, gM, w1, fc, fr, n, lv_sub hl [1, 2, 3, 4, 5] rfl, hP, hD, hS, hc, hr, h70, h2, by omega⟩
set_option maxHeartbeats 4000000 in
set_option maxRecDepth 100000 in
theorem case_14 {p : Program} {l : Launch} {e : Env} {s : State} {m : MethodId} {below : List Frame} {meth : Method} {c : Code} {H : Heap} {locs : List Loc} {cells slots : Nat} {Q : State → Prop} {D : va_G} {tc : Nat → ClassId} {cA : ClassId} {adC adM : Nat → Nat} {o b L i : Nat} {xs : Nat → Int32} {ls : Array Slot} {N : Int} (hls0 : l.stackTraces = false) (F : lFix p s m b c L xs D tc cA) (hi : i + 7 ≤ L) (hL : L ≤ 3584) (hN : N + 400000 ≤ 300000000) (hcl : cells + 1 ≤ 601024) (hsl : slots + 6 ≤ 7293034) (hst : lSt D tc adC adM cA o b i s N H locs ls)
    (kk : ∀ (H : Heap) (locs : List Loc) (ls : Array Slot), lSt D tc adC adM cA o b i s (N + 400000) H locs ls → W p l e room_1 s m #[Value.ref b] below meth c H locs (cells + 1) (slots + 6) Q (F0 m 636 ls [])) : W p l e room_1 s m #[Value.ref b] below meth c H locs cells slots Q (F0 m 556 ls []) := by
  obtain ⟨hx, hb, hml, hown, hts, hK, hK2, hX, hbl, hTX⟩ := id F
  have hbA : ¬ (fun q : Nat => s.heap.size ≤ q) b := Nat.not_le.mpr hbl
  obtain ⟨fC, gC, fM, gM, w, fc, fr, n, hl, hP, hD, hS, hc, hr, h70, h2, hn⟩ := hst
  refine lv_aload_n hx hb dL_law_556 rfl (lv_at hl 1 rfl) ?_
  refine lCallC (bytes := cX8_reset) (mx := 1) (ret := none) (rm := rmX8_reset) (av := []) (rest := []) (n := 0) (K := fun r f1 g1 => r = none ∧ cI n 0 fc f1 g1) (metX8_reset l D adC tc) (sfX8_reset _ 0 fc fC gC _ hc (fun f1 g1 h => ⟨rfl, h⟩)) F (lGoodV goodC lA_C (lA_L0 _ (List.mem_of_getElem? (i := 121) (by decide +kernel))) (lA_L0 _ (List.mem_of_getElem? (i := 122) (by decide +kernel))) (lA_L0 _ (List.mem_of_getElem? (i := 123) (by decide +kernel))) (lA_L0 _ (List.mem_of_getElem? (i := 2) (by decide +kernel))) (lA_L0 _ (List.mem_of_getElem? (i := 124) (by decide +kernel))) rfl) rfl rfl rfl (by decide +kernel) ⟨by decide, by decide⟩ rfl hl.1 (Nat.le_of_ble_eq_true rfl) dL_law_557 (Nat.le_of_succ_le hcl) (Nat.le_trans (Nat.le_add_right _ 6) hsl) hP hD hS (fun r fC gC H locs hk hP hD hS => ?_)
  obtain ⟨rfl, hc⟩ := hk
  refine lv_aload_n hx hb dL_law_560 rfl (lv_at hl 2 rfl) ?_
  refine lCallM (bytes := cX9_reset) (mx := 1) (ret := none) (rm := rmX9_reset) (av := []) (rest := []) (n := 0) (K := fun r f1 g1 => r = none ∧ rI n 8000 fr f1 g1) (metX9_reset l D adM tc) (sfX9_reset _ 8000 fr fM gM _ hr (fun f1 g1 h => ⟨rfl, h⟩)) F (lGoodV goodM lA_M (lA_L0 _ (List.mem_of_getElem? (i := 125) (by decide +kernel))) (lA_L0 _ (List.mem_of_getElem? (i := 126) (by decide +kernel))) (lA_L0 _ (List.mem_of_getElem? (i := 127) (by decide +kernel))) (lA_L0 _ (List.mem_of_getElem? (i := 5) (by decide +kernel))) (lA_L0 _ (List.mem_of_getElem? (i := 128) (by decide +kernel))) rfl) rfl rfl rfl (by decide +kernel) ⟨by decide, by decide⟩ rfl hl.1 (Nat.le_of_ble_eq_true rfl) dL_law_561 (Nat.le_of_succ_le hcl) (Nat.le_trans (Nat.le_add_right _ 6) hsl) hP hD hS (fun r fM gM H locs hk hP hD hS => ?_)
  obtain ⟨rfl, hr⟩ := hk
  refine lv_goto (tgt := 636) hx hb dL_law_564 (by decide) ?_
  refine W.widen (k := cells + 1) (n := slots + 6) (by omega) (by omega) ?_
  exact kk H locs ls ⟨fC, gC, fM, gM, w, fc, fr, n, lv_sub hl [0, 1, 2, 3, 4] rfl, hP, hD, hS, hc, hr, h70, h2, by omega⟩
set_option maxHeartbeats 4000000 in
set_option maxRecDepth 100000 in
theorem case_15 {p : Program} {l : Launch} {e : Env} {s : State} {m : MethodId} {below : List Frame} {meth : Method} {c : Code} {H : Heap} {locs : List Loc} {cells slots : Nat} {Q : State → Prop} {D : va_G} {tc : Nat → ClassId} {cA : ClassId} {adC adM : Nat → Nat} {o b L i : Nat} {xs : Nat → Int32} {ls : Array Slot} {N : Int} (hls0 : l.stackTraces = false) (F : lFix p s m b c L xs D tc cA) (hi : i + 7 ≤ L) (hL : L ≤ 3584) (hN : N + 400000 ≤ 300000000) (hcl : cells + 1 ≤ 601024) (hsl : slots + 6 ≤ 7293034) (hst : lSt D tc adC adM cA o b i s N H locs ls)
    (kk : ∀ (H : Heap) (locs : List Loc) (ls : Array Slot), lSt D tc adC adM cA o b i s (N + 400000) H locs ls → W p l e room_1 s m #[Value.ref b] below meth c H locs (cells + 1) (slots + 6) Q (F0 m 636 ls [])) : W p l e room_1 s m #[Value.ref b] below meth c H locs cells slots Q (F0 m 567 ls []) := by
  obtain ⟨hx, hb, hml, hown, hts, hK, hK2, hX, hbl, hTX⟩ := id F
  have hbA : ¬ (fun q : Nat => s.heap.size ≤ q) b := Nat.not_le.mpr hbl
  obtain ⟨fC, gC, fM, gM, w, fc, fr, n, hl, hP, hD, hS, hc, hr, h70, h2, hn⟩ := hst
  refine lv_aload_n hx hb dL_law_567 rfl (lv_at hl 1 rfl) ?_
  refine lv_aload_n hx hb dL_law_568 rfl (lv_at hl 0 rfl) ?_
  refine lv_iload hx hb dL_law_569 (lv_at hl 4 rfl) ?_
  refine lv_iconst (v := 1) hx hb dL_law_571 (by decide) ?_
  refine lv_iadd hx hb dL_law_572 ?_
  rw [show nI i + (1 : Int32) = nI (i + 1) from nI_add i 1]
  refine va_sld hx hb hX hbl hbA hS (vp_in_nI (n := i + 1) (N := L) (by omega) (by omega)) dL_law_573 ?_
  rw [nI_clamp (show i + 1 < 2 ^ 31 by omega)]
  refine lv_if_eq (tgt := 581) hx hb dL_law_574 (by decide) (fun z574 => ?_) (fun z574 => ?_)
  · refine lv_iconst (v := 0) hx hb dL_law_581 (by decide) ?_
    refine lCallC (bytes := cX8_power) (mx := 3) (ret := (some .boolean)) (rm := rmX8_power) (av := [.inl 0]) (rest := []) (n := 1) (K := fun r f1 g1 => r = some (.inl (fc 2)) ∧ cI n 0 (upd fc 2 0) f1 g1) (metX8_power l D adC tc) (sfX8_power _ 0 fc fC gC _ _ (rg_c (by decide +kernel)) hc (fun f1 g1 h => ⟨rfl, h⟩)) F (lGoodV goodC lA_C (lA_L0 _ (List.mem_of_getElem? (i := 129) (by decide +kernel))) (lA_L0 _ (List.mem_of_getElem? (i := 130) (by decide +kernel))) (lA_L0 _ (List.mem_of_getElem? (i := 131) (by decide +kernel))) (lA_L0 _ (List.mem_of_getElem? (i := 2) (by decide +kernel))) (lA_L0 _ (List.mem_of_getElem? (i := 132) (by decide +kernel))) rfl) rfl rfl rfl (by decide +kernel) ⟨by decide, by decide⟩ rfl hl.1 (Nat.le_of_ble_eq_true rfl) dL_law_582 (Nat.le_of_succ_le hcl) (Nat.le_trans (Nat.le_add_right _ 6) hsl) hP hD hS (fun r fC gC H locs hk hP hD hS => ?_)
    obtain ⟨rfl, hc⟩ := hk
    refine lv_pop hx hb dL_law_585 rfl ?_
    refine lv_aload_n hx hb dL_law_586 rfl (lv_at hl 2 rfl) ?_
    refine lv_aload_n hx hb dL_law_587 rfl (lv_at hl 0 rfl) ?_
    refine lv_iload hx hb dL_law_588 (lv_at hl 4 rfl) ?_
    refine lv_iconst (v := 1) hx hb dL_law_590 (by decide) ?_
    refine lv_iadd hx hb dL_law_591 ?_
    rw [show nI i + (1 : Int32) = nI (i + 1) from nI_add i 1]
    refine va_sld hx hb hX hbl hbA hS (vp_in_nI (n := i + 1) (N := L) (by omega) (by omega)) dL_law_592 ?_
    rw [nI_clamp (show i + 1 < 2 ^ 31 by omega)]
    refine lv_if_eq (tgt := 600) hx hb dL_law_593 (by decide) (fun _ => ?_) (fun z9 => absurd z574 z9)
    refine lv_iconst (v := 0) hx hb dL_law_600 (by decide) ?_
    refine lCallM (bytes := cX9_power) (mx := 4) (ret := (some .boolean)) (rm := rmX9_power) (av := [.inl 0]) (rest := []) (n := 1) (K := fun r f1 g1 => r = some (.inl (fr 9)) ∧ rI n 8000 (upd fr 9 0) f1 g1) (metX9_power l D adM tc) (sfX9_power _ 8000 fr fM gM _ _ (rg_c (by decide +kernel)) hr (fun f1 g1 h => ⟨rfl, h⟩)) F (lGoodV goodM lA_M (lA_L0 _ (List.mem_of_getElem? (i := 133) (by decide +kernel))) (lA_L0 _ (List.mem_of_getElem? (i := 134) (by decide +kernel))) (lA_L0 _ (List.mem_of_getElem? (i := 135) (by decide +kernel))) (lA_L0 _ (List.mem_of_getElem? (i := 5) (by decide +kernel))) (lA_L0 _ (List.mem_of_getElem? (i := 136) (by decide +kernel))) rfl) rfl rfl rfl (by decide +kernel) ⟨by decide, by decide⟩ rfl hl.1 (Nat.le_of_ble_eq_true rfl) dL_law_601 (Nat.le_of_succ_le hcl) (Nat.le_trans (Nat.le_add_right _ 6) hsl) hP hD hS (fun r fM gM H locs hk hP hD hS => ?_)
    obtain ⟨rfl, hr⟩ := hk
    refine lv_pop hx hb dL_law_604 rfl ?_
    refine lv_goto (tgt := 636) hx hb dL_law_605 (by decide) ?_
    refine W.widen (k := cells + 1) (n := slots + 6) (by omega) (by omega) ?_
    exact kk H locs ls ⟨fC, gC, fM, gM, w, (upd fc 2 0), (upd fr 9 0), n, lv_sub hl [0, 1, 2, 3, 4] rfl, hP, hD, hS, hc, hr, by rw [pk_un (by decide), pk_un (by decide)]; exact h70, by rw [pk_us, pk_us], by omega⟩
  · refine lv_iconst (v := 1) hx hb dL_law_577 (by decide) ?_
    refine lv_goto (tgt := 582) hx hb dL_law_578 (by decide) ?_
    refine lCallC (bytes := cX8_power) (mx := 3) (ret := (some .boolean)) (rm := rmX8_power) (av := [.inl 1]) (rest := []) (n := 1) (K := fun r f1 g1 => r = some (.inl (fc 2)) ∧ cI n 0 (upd fc 2 1) f1 g1) (metX8_power l D adC tc) (sfX8_power _ 0 fc fC gC _ _ (rg_c (by decide +kernel)) hc (fun f1 g1 h => ⟨rfl, h⟩)) F (lGoodV goodC lA_C (lA_L0 _ (List.mem_of_getElem? (i := 129) (by decide +kernel))) (lA_L0 _ (List.mem_of_getElem? (i := 130) (by decide +kernel))) (lA_L0 _ (List.mem_of_getElem? (i := 131) (by decide +kernel))) (lA_L0 _ (List.mem_of_getElem? (i := 2) (by decide +kernel))) (lA_L0 _ (List.mem_of_getElem? (i := 132) (by decide +kernel))) rfl) rfl rfl rfl (by decide +kernel) ⟨by decide, by decide⟩ rfl hl.1 (Nat.le_of_ble_eq_true rfl) dL_law_582 (Nat.le_of_succ_le hcl) (Nat.le_trans (Nat.le_add_right _ 6) hsl) hP hD hS (fun r fC gC H locs hk hP hD hS => ?_)
    obtain ⟨rfl, hc⟩ := hk
    refine lv_pop hx hb dL_law_585 rfl ?_
    refine lv_aload_n hx hb dL_law_586 rfl (lv_at hl 2 rfl) ?_
    refine lv_aload_n hx hb dL_law_587 rfl (lv_at hl 0 rfl) ?_
    refine lv_iload hx hb dL_law_588 (lv_at hl 4 rfl) ?_
    refine lv_iconst (v := 1) hx hb dL_law_590 (by decide) ?_
    refine lv_iadd hx hb dL_law_591 ?_
    rw [show nI i + (1 : Int32) = nI (i + 1) from nI_add i 1]
    refine va_sld hx hb hX hbl hbA hS (vp_in_nI (n := i + 1) (N := L) (by omega) (by omega)) dL_law_592 ?_
    rw [nI_clamp (show i + 1 < 2 ^ 31 by omega)]
    refine lv_if_eq (tgt := 600) hx hb dL_law_593 (by decide) (fun z9 => absurd z9 z574) (fun _ => ?_)
    refine lv_iconst (v := 1) hx hb dL_law_596 (by decide) ?_
    refine lv_goto (tgt := 601) hx hb dL_law_597 (by decide) ?_
    refine lCallM (bytes := cX9_power) (mx := 4) (ret := (some .boolean)) (rm := rmX9_power) (av := [.inl 1]) (rest := []) (n := 1) (K := fun r f1 g1 => r = some (.inl (fr 9)) ∧ rI n 8000 (upd fr 9 1) f1 g1) (metX9_power l D adM tc) (sfX9_power _ 8000 fr fM gM _ _ (rg_c (by decide +kernel)) hr (fun f1 g1 h => ⟨rfl, h⟩)) F (lGoodV goodM lA_M (lA_L0 _ (List.mem_of_getElem? (i := 133) (by decide +kernel))) (lA_L0 _ (List.mem_of_getElem? (i := 134) (by decide +kernel))) (lA_L0 _ (List.mem_of_getElem? (i := 135) (by decide +kernel))) (lA_L0 _ (List.mem_of_getElem? (i := 5) (by decide +kernel))) (lA_L0 _ (List.mem_of_getElem? (i := 136) (by decide +kernel))) rfl) rfl rfl rfl (by decide +kernel) ⟨by decide, by decide⟩ rfl hl.1 (Nat.le_of_ble_eq_true rfl) dL_law_601 (Nat.le_of_succ_le hcl) (Nat.le_trans (Nat.le_add_right _ 6) hsl) hP hD hS (fun r fM gM H locs hk hP hD hS => ?_)
    obtain ⟨rfl, hr⟩ := hk
    refine lv_pop hx hb dL_law_604 rfl ?_
    refine lv_goto (tgt := 636) hx hb dL_law_605 (by decide) ?_
    refine W.widen (k := cells + 1) (n := slots + 6) (by omega) (by omega) ?_
    exact kk H locs ls ⟨fC, gC, fM, gM, w, (upd fc 2 1), (upd fr 9 1), n, lv_sub hl [0, 1, 2, 3, 4] rfl, hP, hD, hS, hc, hr, by rw [pk_un (by decide), pk_un (by decide)]; exact h70, by rw [pk_us, pk_us], by omega⟩
set_option maxHeartbeats 4000000 in
set_option maxRecDepth 100000 in
theorem case_16 {p : Program} {l : Launch} {e : Env} {s : State} {m : MethodId} {below : List Frame} {meth : Method} {c : Code} {H : Heap} {locs : List Loc} {cells slots : Nat} {Q : State → Prop} {D : va_G} {tc : Nat → ClassId} {cA : ClassId} {adC adM : Nat → Nat} {o b L i : Nat} {xs : Nat → Int32} {ls : Array Slot} {N : Int} (hls0 : l.stackTraces = false) (F : lFix p s m b c L xs D tc cA) (hi : i + 7 ≤ L) (hL : L ≤ 3584) (hN : N + 400000 ≤ 300000000) (hcl : cells + 1 ≤ 601024) (hsl : slots + 6 ≤ 7293034) (hst : lSt D tc adC adM cA o b i s N H locs ls)
    (kk : ∀ (H : Heap) (locs : List Loc) (ls : Array Slot), lSt D tc adC adM cA o b i s (N + 400000) H locs ls → W p l e room_1 s m #[Value.ref b] below meth c H locs (cells + 1) (slots + 6) Q (F0 m 636 ls [])) : W p l e room_1 s m #[Value.ref b] below meth c H locs cells slots Q (F0 m 608 ls []) := by
  obtain ⟨hx, hb, hml, hown, hts, hK, hK2, hX, hbl, hTX⟩ := id F
  have hbA : ¬ (fun q : Nat => s.heap.size ≤ q) b := Nat.not_le.mpr hbl
  obtain ⟨fC, gC, fM, gM, w, fc, fr, n, hl, hP, hD, hS, hc, hr, h70, h2, hn⟩ := hst
  refine lv_aload_n hx hb dL_law_608 rfl (lv_at hl 1 rfl) ?_
  refine lv_aload_n hx hb dL_law_609 rfl (lv_at hl 0 rfl) ?_
  refine lv_iload hx hb dL_law_610 (lv_at hl 4 rfl) ?_
  refine lv_iconst (v := 1) hx hb dL_law_612 (by decide) ?_
  refine lv_iadd hx hb dL_law_613 ?_
  rw [show nI i + (1 : Int32) = nI (i + 1) from nI_add i 1]
  refine va_sld hx hb hX hbl hbA hS (vp_in_nI (n := i + 1) (N := L) (by omega) (by omega)) dL_law_614 ?_
  rw [nI_clamp (show i + 1 < 2 ^ 31 by omega)]
  refine lv_aload_n hx hb dL_law_615 rfl (lv_at hl 3 rfl) ?_
  obtain ⟨sa, hT⟩ := hTX (207, "nothing is told of that", "java/util/NoSuchElementException") (by decide +kernel)
  refine lCallH (hh := [(0, 9, 12, 21)]) (bytes := cL_about) (mx := 4) (ret := (some .int)) (as := [.ref (adC 0), .int (xs (i + 1)), .ref o]) (rest := []) (n := 3) (K := fun k f1 g1 w1 => cI n 0 fc f1 g1) (hlp_about l hls0 D adC tc cA o sa H.size (fun hz => sfX8_about n 0 fc fC gC _ _ hz hc (fun y => ⟨y, rfl, hc⟩)) (fun _ => hc)) hT F (lGoodS goodH lA_H (lA_L0 _ (List.mem_of_getElem? (i := 137) (by decide +kernel))) (lA_L0 _ (List.mem_of_getElem? (i := 138) (by decide +kernel))) (lA_L0 _ (List.mem_of_getElem? (i := 13) (by decide +kernel))) (lA_L0 _ (List.mem_of_getElem? (i := 139) (by decide +kernel))) rfl) rfl rfl rfl (by decide +kernel) ⟨by decide, by decide⟩ rfl hl.1 (Nat.le_of_ble_eq_true rfl) dL_law_616 hcl hsl hP hD hS (fun k fC gC w1 H locs hk hP hD hS => ?_)
  have hc := hk
  refine lv_istore (lv' := [(5, .int k), (0, .ref b), (1, .ref (adC 0)), (2, .ref (adM 0)), (3, .ref o), (4, .int (nI i))]) hx hb dL_law_619 hl (by decide) rfl (fun ls hl => ?_)
  refine lv_aload_n hx hb dL_law_621 rfl (lv_at hl 3 rfl) ?_
  refine lv_aload_n hx hb dL_law_622 rfl (lv_at hl 1 rfl) ?_
  refine lv_iload hx hb dL_law_623 (lv_at hl 5 rfl) ?_
  refine lv_iconst (v := 1) hx hb dL_law_625 (by decide) ?_
  refine lv_iadd hx hb dL_law_626 ?_
  rw [show nI i + (1 : Int32) = nI (i + 1) from nI_add i 1]
  refine va_sld hx hb hX hbl hbA hS (vp_in_nI (n := i + 1) (N := L) (by omega) (by omega)) dL_law_627 ?_
  rw [nI_clamp (show i + 1 < 2 ^ 31 by omega)]
  refine lCallM (bytes := cX9_about) (mx := 4) (ret := (some .int)) (rm := rmX9_about) (av := [.inl (xs (i + 1))]) (rest := []) (n := 1) (K := fun r f1 g1 => (∃ y, r = some (.inl y)) ∧ rI n 8000 fr f1 g1) (metX9_about l D adM tc) (sfX9_about _ 8000 fr fM gM _ _ hr (fun y f1 g1 h => ⟨⟨y, rfl⟩, h⟩)) F (lGoodV goodM lA_M (lA_L0 _ (List.mem_of_getElem? (i := 140) (by decide +kernel))) (lA_L0 _ (List.mem_of_getElem? (i := 141) (by decide +kernel))) (lA_L0 _ (List.mem_of_getElem? (i := 142) (by decide +kernel))) (lA_L0 _ (List.mem_of_getElem? (i := 5) (by decide +kernel))) (lA_L0 _ (List.mem_of_getElem? (i := 143) (by decide +kernel))) rfl) rfl rfl rfl (by decide +kernel) ⟨by decide, by decide⟩ rfl hl.1 (Nat.le_of_ble_eq_true rfl) dL_law_628 hcl hsl hP hD hS (fun r fM gM H locs hk hP hD hS => ?_)
  obtain ⟨⟨y, rfl⟩, hr⟩ := hk
  refine lv_istore (lv' := [(6, .int y), (5, .int k), (0, .ref b), (1, .ref (adC 0)), (2, .ref (adM 0)), (3, .ref o), (4, .int (nI i))]) hx hb dL_law_631 hl (by decide) rfl (fun ls hl => ?_)
  refine lv_goto (tgt := 636) hx hb dL_law_633 (by decide) ?_
  exact kk H locs ls ⟨fC, gC, fM, gM, w1, fc, fr, n, lv_sub hl [2, 3, 4, 5, 6] rfl, hP, hD, hS, hc, hr, h70, h2, by omega⟩
