/-! the law's cases, one by one -/
def lSt1 (D : va_G) (tc : Nat → ClassId) (adC adM : Nat → Nat) (cA : ClassId) (o b i : Nat) (s : State) (H : Heap) (locs : List Loc) (ls : Array Slot) : Prop :=
  ∃ (fC : mFn) (gC : mGn) (fM : mFn) (gM : mGn) (w : Nat → Int64), lv_has ls 7 [(0, .ref b), (1, .ref (adC 0)), (2, .ref (adM 0)), (3, .ref o), (4, .int (nI i))] ∧ va_P D vwCl (lwW adC adM tc fC gC fM gM cA o w) H ∧ va_D (fun q => s.heap.size ≤ q) (lwW adC adM tc fC gC fM gM cA o w) ∧ va_S (fun q => s.heap.size ≤ q) s.heap H locs ∧ eOk e0 dfC s0C fC gC ∧ eOk e0 dfM s0M fM gM
def lSt2 (D : va_G) (tc : Nat → ClassId) (adC adM : Nat → Nat) (cA : ClassId) (o b i : Nat) (s : State) (H : Heap) (locs : List Loc) (ls : Array Slot) : Prop :=
  ∃ (fC : mFn) (gC : mGn) (fM : mFn) (gM : mGn) (w : Nat → Int64), lv_has ls 7 [(0, .ref b), (1, .ref (adC 0)), (2, .ref (adM 0)), (3, .ref o), (4, .int (nI i))] ∧ va_P D vwCl (lwW adC adM tc fC gC fM gM cA o w) H ∧ va_D (fun q => s.heap.size ≤ q) (lwW adC adM tc fC gC fM gM cA o w) ∧ va_S (fun q => s.heap.size ≤ q) s.heap H locs
set_option maxHeartbeats 4000000 in
set_option maxRecDepth 100000 in
theorem case_0 {p : Program} {l : Launch} {e : Env} {s : State} {m : MethodId} {below : List Frame} {meth : Method} {c : Code} {H : Heap} {locs : List Loc} {cells slots : Nat} {Q : State → Prop} {D : va_G} {tc : Nat → ClassId} {cA : ClassId} {adC adM : Nat → Nat} {o b L i : Nat} {xs : Nat → Int32} {ls : Array Slot} (hls0 : l.stackTraces = false) (F : lFix p s m b c L xs D tc cA) (hi : i + 7 ≤ L) (hL : L ≤ 3584) (hcl : cells + 1 ≤ 600002) (hsl : slots + 6 ≤ 7302232) (hst : lSt1 D tc adC adM cA o b i s H locs ls)
    (kk : ∀ (H : Heap) (locs : List Loc) (ls : Array Slot), lSt2 D tc adC adM cA o b i s H locs ls → W p l e room_1 s m #[Value.ref b] below meth c H locs (cells + 1) (slots + 6) Q (F0 m 871 ls [])) : W p l e room_1 s m #[Value.ref b] below meth c H locs cells slots Q (F0 m 124 ls []) := by
  obtain ⟨hx, hb, hml, hown, hts, hK, hK2, hX, hbl, hTX⟩ := id F
  have hbA : ¬ (fun q : Nat => s.heap.size ≤ q) b := Nat.not_le.mpr hbl
  obtain ⟨fC, gC, fM, gM, w, hl, hP, hD, hS, hC, hM⟩ := hst
  obtain ⟨fc, fr, n, hc, hr⟩ : ∃ (fc fr : mFn) (n : Int), cI n 0 fc fC gC ∧ rI n 8000 fr fM gM := ⟨fC, fM, 1, cI_of hC, rI_of hM⟩
  refine lv_aload_n hx hb dL_law_124 rfl (lv_at hl 1 rfl) ?_
  refine lCallC (bytes := cX8_step) (mx := 1) (ret := (some .int)) (rm := rmX8_step) (av := []) (rest := []) (n := 0) (K := fun r f1 g1 => r = some (.inl 1) ∧ True) (metX8_step l D adC tc) (pC_step hC (fun f1 g1 => ⟨rfl, trivial⟩)) F (lGoodV goodC lA_C (lA_L0 _ (List.mem_of_getElem? (i := 14) (by decide +kernel))) (lA_L0 _ (List.mem_of_getElem? (i := 15) (by decide +kernel))) (lA_L0 _ (List.mem_of_getElem? (i := 16) (by decide +kernel))) (lA_L0 _ (List.mem_of_getElem? (i := 2) (by decide +kernel))) (lA_L0 _ (List.mem_of_getElem? (i := 17) (by decide +kernel))) rfl) rfl rfl rfl (by decide +kernel) ⟨by decide, by decide⟩ rfl hl.1 (Nat.le_of_ble_eq_true rfl) dL_law_125 (Nat.le_of_succ_le hcl) (Nat.le_trans (Nat.le_add_right _ 6) hsl) hP hD hS (fun r fC gC H locs hk hP hD hS => ?_)
  obtain ⟨rfl, -⟩ := hk
  refine lv_aload_n hx hb dL_law_128 rfl (lv_at hl 2 rfl) ?_
  refine lCallM (bytes := cX9_step) (mx := 1) (ret := (some .int)) (rm := rmX9_step) (av := []) (rest := [.int 1]) (n := 0) (K := fun r f1 g1 => r = some (.inl 1) ∧ True) (metX9_step l D adM tc) (pM_step hM (fun f1 g1 => ⟨rfl, trivial⟩)) F (lGoodV goodM lA_M (lA_L0 _ (List.mem_of_getElem? (i := 18) (by decide +kernel))) (lA_L0 _ (List.mem_of_getElem? (i := 19) (by decide +kernel))) (lA_L0 _ (List.mem_of_getElem? (i := 20) (by decide +kernel))) (lA_L0 _ (List.mem_of_getElem? (i := 5) (by decide +kernel))) (lA_L0 _ (List.mem_of_getElem? (i := 21) (by decide +kernel))) rfl) rfl rfl rfl (by decide +kernel) ⟨by decide, by decide⟩ rfl hl.1 (Nat.le_of_ble_eq_true rfl) dL_law_129 (Nat.le_of_succ_le hcl) (Nat.le_trans (Nat.le_add_right _ 6) hsl) hP hD hS (fun r fM gM H locs hk hP hD hS => ?_)
  obtain ⟨rfl, -⟩ := hk
  refine lv_icmp_eq (tgt := 871) hx hb dL_law_132 (by decide) (fun _ => ?_) (fun z => absurd rfl z)
  refine W.widen (k := cells + 1) (n := slots + 6) (by omega) (by omega) ?_
  exact kk H locs ls ⟨fC, gC, fM, gM, w, lv_sub hl [0, 1, 2, 3, 4] rfl, hP, hD, hS⟩
set_option maxHeartbeats 4000000 in
set_option maxRecDepth 100000 in
theorem case_1 {p : Program} {l : Launch} {e : Env} {s : State} {m : MethodId} {below : List Frame} {meth : Method} {c : Code} {H : Heap} {locs : List Loc} {cells slots : Nat} {Q : State → Prop} {D : va_G} {tc : Nat → ClassId} {cA : ClassId} {adC adM : Nat → Nat} {o b L i : Nat} {xs : Nat → Int32} {ls : Array Slot} (hls0 : l.stackTraces = false) (F : lFix p s m b c L xs D tc cA) (hi : i + 7 ≤ L) (hL : L ≤ 3584) (hcl : cells + 1 ≤ 600002) (hsl : slots + 6 ≤ 7302232) (hst : lSt1 D tc adC adM cA o b i s H locs ls)
    (kk : ∀ (H : Heap) (locs : List Loc) (ls : Array Slot), lSt2 D tc adC adM cA o b i s H locs ls → W p l e room_1 s m #[Value.ref b] below meth c H locs (cells + 1) (slots + 6) Q (F0 m 871 ls [])) : W p l e room_1 s m #[Value.ref b] below meth c H locs cells slots Q (F0 m 137 ls []) := by
  obtain ⟨hx, hb, hml, hown, hts, hK, hK2, hX, hbl, hTX⟩ := id F
  have hbA : ¬ (fun q : Nat => s.heap.size ≤ q) b := Nat.not_le.mpr hbl
  obtain ⟨fC, gC, fM, gM, w, hl, hP, hD, hS, hC, hM⟩ := hst
  obtain ⟨fc, fr, n, hc, hr⟩ : ∃ (fc fr : mFn) (n : Int), cI n 0 fc fC gC ∧ rI n 8000 fr fM gM := ⟨fC, fM, 1, cI_of hC, rI_of hM⟩
  refine lv_aload_n hx hb dL_law_137 rfl (lv_at hl 1 rfl) ?_
  refine lv_aload_n hx hb dL_law_138 rfl (lv_at hl 0 rfl) ?_
  refine lv_iload hx hb dL_law_139 (lv_at hl 4 rfl) ?_
  refine lv_iconst (v := 1) hx hb dL_law_141 (by decide) ?_
  refine lv_iadd hx hb dL_law_142 ?_
  rw [show nI i + (1 : Int32) = nI (i + 1) from nI_add i 1]
  refine va_sld hx hb hX hbl hbA hS (vp_in_nI (n := i + 1) (N := L) (by omega) (by omega)) dL_law_143 ?_
  rw [nI_clamp (show i + 1 < 2 ^ 31 by omega)]
  refine lv_aload_n hx hb dL_law_144 rfl (lv_at hl 3 rfl) ?_
  obtain ⟨sa, hT⟩ := hTX (39, "n is not 1 .. 5000", "java/lang/IllegalArgumentException") (by decide +kernel)
  refine lCallH (hh := [(0, 9, 12, 13)]) (bytes := cL_run) (mx := 4) (ret := (some .int)) (as := [.ref (adC 0), .int (xs (i + 1)), .ref o]) (rest := []) (n := 3) (K := fun k f1 g1 w1 => (rg 1 5000 ((xs (i + 1))) ∧ k = 0 ∧ ∃ y : Int32, (y = nI (sumD ((xs (i + 1))).toNatClampNeg)) ∧ w1 = vp_updL w 0 y.toInt64) ∨ (¬ rg 1 5000 ((xs (i + 1))) ∧ k = 1)) (hlp_run l hls0 D adC tc cA o sa H.size (fun hz => pC_run hC hz (fun y f1 g1 hy => ⟨y, rfl, Or.inl ⟨hz, rfl, y, hy, rfl⟩⟩)) (fun hz => Or.inr ⟨hz, rfl⟩)) hT F (lGoodS goodH lA_H (lA_L0 _ (List.mem_of_getElem? (i := 22) (by decide +kernel))) (lA_L0 _ (List.mem_of_getElem? (i := 23) (by decide +kernel))) (lA_L0 _ (List.mem_of_getElem? (i := 13) (by decide +kernel))) (lA_L0 _ (List.mem_of_getElem? (i := 24) (by decide +kernel))) rfl) rfl rfl rfl (by decide +kernel) ⟨by decide, by decide⟩ rfl hl.1 (Nat.le_of_ble_eq_true rfl) dL_law_145 hcl hsl hP hD hS (fun k fC gC w1 H locs hk hP hD hS => ?_)
  have hk0 := hk
  refine lv_istore (lv' := [(5, .int k), (0, .ref b), (1, .ref (adC 0)), (2, .ref (adM 0)), (3, .ref o), (4, .int (nI i))]) hx hb dL_law_148 hl (by decide) rfl (fun ls hl => ?_)
  refine lv_aload_n hx hb dL_law_150 rfl (lv_at hl 3 rfl) ?_
  refine lv_aload_n hx hb dL_law_151 rfl (lv_at hl 1 rfl) ?_
  refine lv_iload hx hb dL_law_152 (lv_at hl 5 rfl) ?_
  refine lv_iconst (v := 1) hx hb dL_law_154 (by decide) ?_
  refine lv_iadd hx hb dL_law_155 ?_
  rw [show nI i + (1 : Int32) = nI (i + 1) from nI_add i 1]
  refine va_sld hx hb hX hbl hbA hS (vp_in_nI (n := i + 1) (N := L) (by omega) (by omega)) dL_law_156 ?_
  rw [nI_clamp (show i + 1 < 2 ^ 31 by omega)]
  refine lCallM (bytes := cX9_run) (mx := 4) (ret := (some .int)) (rm := rmX9_run) (av := [.inl (xs (i + 1))]) (rest := []) (n := 1) (K := fun r f1 g1 => ∃ y, r = some (.inl y) ∧ (rg 1 5000 (xs (i + 1)) → (y = nI (sumD ((xs (i + 1))).toNatClampNeg)) ∧ f1 0 = 0) ∧ (¬ rg 1 5000 (xs (i + 1)) → f1 0 = 1)) (metX9_run l D adM tc) (pM_run hM (fun y f1 g1 ha hb => ⟨y, rfl, ha, hb⟩)) F (lGoodV goodM lA_M (lA_L0 _ (List.mem_of_getElem? (i := 25) (by decide +kernel))) (lA_L0 _ (List.mem_of_getElem? (i := 26) (by decide +kernel))) (lA_L0 _ (List.mem_of_getElem? (i := 27) (by decide +kernel))) (lA_L0 _ (List.mem_of_getElem? (i := 5) (by decide +kernel))) (lA_L0 _ (List.mem_of_getElem? (i := 28) (by decide +kernel))) rfl) rfl rfl rfl (by decide +kernel) ⟨by decide, by decide⟩ rfl hl.1 (Nat.le_of_ble_eq_true rfl) dL_law_157 hcl hsl hP hD hS (fun r fM gM H locs hk hP hD hS => ?_)
  obtain ⟨y, rfl, hya, hyb⟩ := hk
  have hTh : fM 0 = k := by
    rcases hk0 with ⟨hz, rfl, -⟩ | ⟨hz, rfl⟩
    · exact (hya hz).2
    · exact hyb hz
  have hW : k = 0 → w1 (0 : Int32).toNatClampNeg = y.toInt64 := by
    intro z9
    rcases hk0 with ⟨hz, -, y2, hy2, rfl⟩ | ⟨hz, e⟩
    · rw [show y = y2 from (hya hz).1.trans hy2.symm, show (0 : Int32).toNatClampNeg = 0 from by decide]; simp [vp_updL]
    · exact absurd (e.symm.trans z9) (by decide)
  refine lv_istore (lv' := [(6, .int y), (5, .int k), (0, .ref b), (1, .ref (adC 0)), (2, .ref (adM 0)), (3, .ref o), (4, .int (nI i))]) hx hb dL_law_160 hl (by decide) rfl (fun ls hl => ?_)
  refine lv_aload_n hx hb dL_law_162 rfl (lv_at hl 4 rfl) ?_
  refine lCallM (bytes := cX9_thrown) (mx := 1) (ret := (some .int)) (rm := rmX9_thrown) (av := []) (rest := []) (n := 0) (K := fun r f1 g1 => r = some (.inl (fM 0)) ∧ f1 = fM ∧ g1 = gM) (metX9_thrown l D adM tc) (sfX9_thrown fM gM _ ⟨rfl, rfl, rfl⟩) F (lGoodV goodM lA_M (lA_L0 _ (List.mem_of_getElem? (i := 29) (by decide +kernel))) (lA_L0 _ (List.mem_of_getElem? (i := 30) (by decide +kernel))) (lA_L0 _ (List.mem_of_getElem? (i := 31) (by decide +kernel))) (lA_L0 _ (List.mem_of_getElem? (i := 5) (by decide +kernel))) (lA_L0 _ (List.mem_of_getElem? (i := 32) (by decide +kernel))) rfl) rfl rfl rfl (by decide +kernel) ⟨by decide, by decide⟩ rfl hl.1 (Nat.le_of_ble_eq_true rfl) dL_law_163 hcl hsl hP hD hS (fun r f1 g1 H locs hk hP hD hS => ?_)
  obtain ⟨hr9, hf9, hg9⟩ := hk
  rw [hf9, hg9] at hP hD
  subst hr9
  refine lv_iload hx hb dL_law_166 (lv_at hl 1 rfl) ?_
  refine lv_icmp_eq (tgt := 173) hx hb dL_law_168 (by decide) (fun _ => ?_) (fun z => absurd hTh z)
  refine lv_iload hx hb dL_law_173 (lv_at hl 1 rfl) ?_
  refine lv_if_ne (tgt := 190) hx hb dL_law_175 (by decide) (fun zk => ?_) (fun zk => ?_)
  · refine lv_goto (tgt := 871) hx hb dL_law_190 (by decide) ?_
    exact kk H locs ls ⟨fC, gC, fM, gM, w1, lv_sub hl [2, 3, 4, 5, 6] rfl, hP, hD, hS⟩
  · refine lv_aload_n hx hb dL_law_178 rfl (lv_at hl 5 rfl) ?_
    refine lv_iconst (v := 0) hx hb dL_law_179 (by decide) ?_
    refine va_lald hx hb hK2 hP ((mW adC tc shC fC gC).length + 0) 0 (cA := cA) (n := 1) (f := w1) (by unfold lwW; exact vApp1 (vApp2 (j := 0) rfl)) rfl (i := 0) (vp_in_nI (n := 0) (N := 1) (by decide) (by decide)) dL_law_180 ?_
    refine lv_iload hx hb dL_law_181 (lv_at hl 0 rfl) ?_
    refine lv_i2l hx hb dL_law_183 rfl ?_
    refine W.lcmp hx hb dL_law_184 ?_
    rw [hW zk, lg_self]
    refine lv_if_eq (tgt := 190) hx hb dL_law_185 (by decide) (fun _ => ?_) (fun z => absurd rfl z)
    refine lv_goto (tgt := 871) hx hb dL_law_190 (by decide) ?_
    exact kk H locs ls ⟨fC, gC, fM, gM, w1, lv_sub hl [2, 3, 4, 5, 6] rfl, hP, hD, hS⟩
set_option maxHeartbeats 4000000 in
set_option maxRecDepth 100000 in
theorem case_2 {p : Program} {l : Launch} {e : Env} {s : State} {m : MethodId} {below : List Frame} {meth : Method} {c : Code} {H : Heap} {locs : List Loc} {cells slots : Nat} {Q : State → Prop} {D : va_G} {tc : Nat → ClassId} {cA : ClassId} {adC adM : Nat → Nat} {o b L i : Nat} {xs : Nat → Int32} {ls : Array Slot} (hls0 : l.stackTraces = false) (F : lFix p s m b c L xs D tc cA) (hi : i + 7 ≤ L) (hL : L ≤ 3584) (hcl : cells + 1 ≤ 600002) (hsl : slots + 6 ≤ 7302232) (hst : lSt1 D tc adC adM cA o b i s H locs ls)
    (kk : ∀ (H : Heap) (locs : List Loc) (ls : Array Slot), lSt2 D tc adC adM cA o b i s H locs ls → W p l e room_1 s m #[Value.ref b] below meth c H locs (cells + 1) (slots + 6) Q (F0 m 871 ls [])) : W p l e room_1 s m #[Value.ref b] below meth c H locs cells slots Q (F0 m 193 ls []) := by
  obtain ⟨hx, hb, hml, hown, hts, hK, hK2, hX, hbl, hTX⟩ := id F
  have hbA : ¬ (fun q : Nat => s.heap.size ≤ q) b := Nat.not_le.mpr hbl
  obtain ⟨fC, gC, fM, gM, w, hl, hP, hD, hS, hC, hM⟩ := hst
  obtain ⟨fc, fr, n, hc, hr⟩ : ∃ (fc fr : mFn) (n : Int), cI n 0 fc fC gC ∧ rI n 8000 fr fM gM := ⟨fC, fM, 1, cI_of hC, rI_of hM⟩
  refine lv_aload_n hx hb dL_law_193 rfl (lv_at hl 1 rfl) ?_
  refine lv_aload_n hx hb dL_law_194 rfl (lv_at hl 0 rfl) ?_
  refine lv_iload hx hb dL_law_195 (lv_at hl 4 rfl) ?_
  refine lv_iconst (v := 1) hx hb dL_law_197 (by decide) ?_
  refine lv_iadd hx hb dL_law_198 ?_
  rw [show nI i + (1 : Int32) = nI (i + 1) from nI_add i 1]
  refine va_sld hx hb hX hbl hbA hS (vp_in_nI (n := i + 1) (N := L) (by omega) (by omega)) dL_law_199 ?_
  rw [nI_clamp (show i + 1 < 2 ^ 31 by omega)]
  refine lv_aload_n hx hb dL_law_200 rfl (lv_at hl 3 rfl) ?_
  obtain ⟨sa, hT⟩ := hTX (45, "n is not 1 .. 200000", "java/lang/IllegalArgumentException") (by decide +kernel)
  refine lCallH (hh := [(0, 9, 12, 13)]) (bytes := cL_pass) (mx := 4) (ret := (some .int)) (as := [.ref (adC 0), .int (xs (i + 1)), .ref o]) (rest := []) (n := 3) (K := fun k f1 g1 w1 => (rg 1 200000 ((xs (i + 1))) ∧ k = 0 ∧ ∃ y : Int32, (aPass ((xs (i + 1))).toNatClampNeg y) ∧ w1 = vp_updL w 0 y.toInt64) ∨ (¬ rg 1 200000 ((xs (i + 1))) ∧ k = 1)) (hlp_pass l hls0 D adC tc cA o sa H.size (fun hz => pC_pass hC hz (fun y f1 g1 hy => ⟨y, rfl, Or.inl ⟨hz, rfl, y, hy, rfl⟩⟩)) (fun hz => Or.inr ⟨hz, rfl⟩)) hT F (lGoodS goodH lA_H (lA_L0 _ (List.mem_of_getElem? (i := 33) (by decide +kernel))) (lA_L0 _ (List.mem_of_getElem? (i := 34) (by decide +kernel))) (lA_L0 _ (List.mem_of_getElem? (i := 13) (by decide +kernel))) (lA_L0 _ (List.mem_of_getElem? (i := 35) (by decide +kernel))) rfl) rfl rfl rfl (by decide +kernel) ⟨by decide, by decide⟩ rfl hl.1 (Nat.le_of_ble_eq_true rfl) dL_law_201 hcl hsl hP hD hS (fun k fC gC w1 H locs hk hP hD hS => ?_)
  have hk0 := hk
  refine lv_istore (lv' := [(5, .int k), (0, .ref b), (1, .ref (adC 0)), (2, .ref (adM 0)), (3, .ref o), (4, .int (nI i))]) hx hb dL_law_204 hl (by decide) rfl (fun ls hl => ?_)
  refine lv_aload_n hx hb dL_law_206 rfl (lv_at hl 3 rfl) ?_
  refine lv_aload_n hx hb dL_law_207 rfl (lv_at hl 1 rfl) ?_
  refine lv_iload hx hb dL_law_208 (lv_at hl 5 rfl) ?_
  refine lv_iconst (v := 1) hx hb dL_law_210 (by decide) ?_
  refine lv_iadd hx hb dL_law_211 ?_
  rw [show nI i + (1 : Int32) = nI (i + 1) from nI_add i 1]
  refine va_sld hx hb hX hbl hbA hS (vp_in_nI (n := i + 1) (N := L) (by omega) (by omega)) dL_law_212 ?_
  rw [nI_clamp (show i + 1 < 2 ^ 31 by omega)]
  refine lCallM (bytes := cX9_pass) (mx := 3) (ret := (some .int)) (rm := rmX9_pass) (av := [.inl (xs (i + 1))]) (rest := []) (n := 1) (K := fun r f1 g1 => ∃ y, r = some (.inl y) ∧ (rg 1 200000 (xs (i + 1)) → (aPass ((xs (i + 1))).toNatClampNeg y) ∧ f1 0 = 0) ∧ (¬ rg 1 200000 (xs (i + 1)) → f1 0 = 1)) (metX9_pass l D adM tc) (pM_pass hM (fun y f1 g1 ha hb => ⟨y, rfl, ha, hb⟩)) F (lGoodV goodM lA_M (lA_L0 _ (List.mem_of_getElem? (i := 36) (by decide +kernel))) (lA_L0 _ (List.mem_of_getElem? (i := 37) (by decide +kernel))) (lA_L0 _ (List.mem_of_getElem? (i := 38) (by decide +kernel))) (lA_L0 _ (List.mem_of_getElem? (i := 5) (by decide +kernel))) (lA_L0 _ (List.mem_of_getElem? (i := 39) (by decide +kernel))) rfl) rfl rfl rfl (by decide +kernel) ⟨by decide, by decide⟩ rfl hl.1 (Nat.le_of_ble_eq_true rfl) dL_law_213 hcl hsl hP hD hS (fun r fM gM H locs hk hP hD hS => ?_)
  obtain ⟨y, rfl, hya, hyb⟩ := hk
  have hTh : fM 0 = k := by
    rcases hk0 with ⟨hz, rfl, -⟩ | ⟨hz, rfl⟩
    · exact (hya hz).2
    · exact hyb hz
  have hW : k = 0 → w1 (0 : Int32).toNatClampNeg = y.toInt64 := by
    intro z9
    rcases hk0 with ⟨hz, -, y2, hy2, rfl⟩ | ⟨hz, e⟩
    · rw [show y = y2 from aPass_u (hya hz).1 hy2, show (0 : Int32).toNatClampNeg = 0 from by decide]; simp [vp_updL]
    · exact absurd (e.symm.trans z9) (by decide)
  refine lv_istore (lv' := [(6, .int y), (5, .int k), (0, .ref b), (1, .ref (adC 0)), (2, .ref (adM 0)), (3, .ref o), (4, .int (nI i))]) hx hb dL_law_216 hl (by decide) rfl (fun ls hl => ?_)
  refine lv_aload_n hx hb dL_law_218 rfl (lv_at hl 4 rfl) ?_
  refine lCallM (bytes := cX9_thrown) (mx := 1) (ret := (some .int)) (rm := rmX9_thrown) (av := []) (rest := []) (n := 0) (K := fun r f1 g1 => r = some (.inl (fM 0)) ∧ f1 = fM ∧ g1 = gM) (metX9_thrown l D adM tc) (sfX9_thrown fM gM _ ⟨rfl, rfl, rfl⟩) F (lGoodV goodM lA_M (lA_L0 _ (List.mem_of_getElem? (i := 29) (by decide +kernel))) (lA_L0 _ (List.mem_of_getElem? (i := 30) (by decide +kernel))) (lA_L0 _ (List.mem_of_getElem? (i := 31) (by decide +kernel))) (lA_L0 _ (List.mem_of_getElem? (i := 5) (by decide +kernel))) (lA_L0 _ (List.mem_of_getElem? (i := 32) (by decide +kernel))) rfl) rfl rfl rfl (by decide +kernel) ⟨by decide, by decide⟩ rfl hl.1 (Nat.le_of_ble_eq_true rfl) dL_law_219 hcl hsl hP hD hS (fun r f1 g1 H locs hk hP hD hS => ?_)
  obtain ⟨hr9, hf9, hg9⟩ := hk
  rw [hf9, hg9] at hP hD
  subst hr9
  refine lv_iload hx hb dL_law_222 (lv_at hl 1 rfl) ?_
  refine lv_icmp_eq (tgt := 229) hx hb dL_law_224 (by decide) (fun _ => ?_) (fun z => absurd hTh z)
  refine lv_iload hx hb dL_law_229 (lv_at hl 1 rfl) ?_
  refine lv_if_ne (tgt := 246) hx hb dL_law_231 (by decide) (fun zk => ?_) (fun zk => ?_)
  · refine lv_goto (tgt := 871) hx hb dL_law_246 (by decide) ?_
    exact kk H locs ls ⟨fC, gC, fM, gM, w1, lv_sub hl [2, 3, 4, 5, 6] rfl, hP, hD, hS⟩
  · refine lv_aload_n hx hb dL_law_234 rfl (lv_at hl 5 rfl) ?_
    refine lv_iconst (v := 0) hx hb dL_law_235 (by decide) ?_
    refine va_lald hx hb hK2 hP ((mW adC tc shC fC gC).length + 0) 0 (cA := cA) (n := 1) (f := w1) (by unfold lwW; exact vApp1 (vApp2 (j := 0) rfl)) rfl (i := 0) (vp_in_nI (n := 0) (N := 1) (by decide) (by decide)) dL_law_236 ?_
    refine lv_iload hx hb dL_law_237 (lv_at hl 0 rfl) ?_
    refine lv_i2l hx hb dL_law_239 rfl ?_
    refine W.lcmp hx hb dL_law_240 ?_
    rw [hW zk, lg_self]
    refine lv_if_eq (tgt := 246) hx hb dL_law_241 (by decide) (fun _ => ?_) (fun z => absurd rfl z)
    refine lv_goto (tgt := 871) hx hb dL_law_246 (by decide) ?_
    exact kk H locs ls ⟨fC, gC, fM, gM, w1, lv_sub hl [2, 3, 4, 5, 6] rfl, hP, hD, hS⟩
set_option maxHeartbeats 4000000 in
set_option maxRecDepth 100000 in
theorem case_3 {p : Program} {l : Launch} {e : Env} {s : State} {m : MethodId} {below : List Frame} {meth : Method} {c : Code} {H : Heap} {locs : List Loc} {cells slots : Nat} {Q : State → Prop} {D : va_G} {tc : Nat → ClassId} {cA : ClassId} {adC adM : Nat → Nat} {o b L i : Nat} {xs : Nat → Int32} {ls : Array Slot} (hls0 : l.stackTraces = false) (F : lFix p s m b c L xs D tc cA) (hi : i + 7 ≤ L) (hL : L ≤ 3584) (hcl : cells + 1 ≤ 600002) (hsl : slots + 6 ≤ 7302232) (hst : lSt1 D tc adC adM cA o b i s H locs ls)
    (kk : ∀ (H : Heap) (locs : List Loc) (ls : Array Slot), lSt2 D tc adC adM cA o b i s H locs ls → W p l e room_1 s m #[Value.ref b] below meth c H locs (cells + 1) (slots + 6) Q (F0 m 871 ls [])) : W p l e room_1 s m #[Value.ref b] below meth c H locs cells slots Q (F0 m 249 ls []) := by
  obtain ⟨hx, hb, hml, hown, hts, hK, hK2, hX, hbl, hTX⟩ := id F
  have hbA : ¬ (fun q : Nat => s.heap.size ≤ q) b := Nat.not_le.mpr hbl
  obtain ⟨fC, gC, fM, gM, w, hl, hP, hD, hS, hC, hM⟩ := hst
  obtain ⟨fc, fr, n, hc, hr⟩ : ∃ (fc fr : mFn) (n : Int), cI n 0 fc fC gC ∧ rI n 8000 fr fM gM := ⟨fC, fM, 1, cI_of hC, rI_of hM⟩
  refine lv_aload_n hx hb dL_law_249 rfl (lv_at hl 1 rfl) ?_
  refine lv_aload_n hx hb dL_law_250 rfl (lv_at hl 0 rfl) ?_
  refine lv_iload hx hb dL_law_251 (lv_at hl 4 rfl) ?_
  refine lv_iconst (v := 1) hx hb dL_law_253 (by decide) ?_
  refine lv_iadd hx hb dL_law_254 ?_
  rw [show nI i + (1 : Int32) = nI (i + 1) from nI_add i 1]
  refine va_sld hx hb hX hbl hbA hS (vp_in_nI (n := i + 1) (N := L) (by omega) (by omega)) dL_law_255 ?_
  rw [nI_clamp (show i + 1 < 2 ^ 31 by omega)]
  refine lCallC (bytes := cX8_host) (mx := 2) (ret := (some .int)) (rm := rmX8_host) (av := [.inl (xs (i + 1))]) (rest := []) (n := 1) (K := fun r f1 g1 => r = some (.inl 1) ∧ True) (metX8_host l D adC tc) (pC_host hC (fun f1 g1 => ⟨rfl, trivial⟩)) F (lGoodV goodC lA_C (lA_L0 _ (List.mem_of_getElem? (i := 40) (by decide +kernel))) (lA_L0 _ (List.mem_of_getElem? (i := 41) (by decide +kernel))) (lA_L0 _ (List.mem_of_getElem? (i := 42) (by decide +kernel))) (lA_L0 _ (List.mem_of_getElem? (i := 2) (by decide +kernel))) (lA_L0 _ (List.mem_of_getElem? (i := 43) (by decide +kernel))) rfl) rfl rfl rfl (by decide +kernel) ⟨by decide, by decide⟩ rfl hl.1 (Nat.le_of_ble_eq_true rfl) dL_law_256 (Nat.le_of_succ_le hcl) (Nat.le_trans (Nat.le_add_right _ 6) hsl) hP hD hS (fun r fC gC H locs hk hP hD hS => ?_)
  obtain ⟨rfl, -⟩ := hk
  refine lv_aload_n hx hb dL_law_259 rfl (lv_at hl 2 rfl) ?_
  refine lv_aload_n hx hb dL_law_260 rfl (lv_at hl 0 rfl) ?_
  refine lv_iload hx hb dL_law_261 (lv_at hl 4 rfl) ?_
  refine lv_iconst (v := 1) hx hb dL_law_263 (by decide) ?_
  refine lv_iadd hx hb dL_law_264 ?_
  rw [show nI i + (1 : Int32) = nI (i + 1) from nI_add i 1]
  refine va_sld hx hb hX hbl hbA hS (vp_in_nI (n := i + 1) (N := L) (by omega) (by omega)) dL_law_265 ?_
  rw [nI_clamp (show i + 1 < 2 ^ 31 by omega)]
  refine lCallM (bytes := cX9_host) (mx := 2) (ret := (some .int)) (rm := rmX9_host) (av := [.inl (xs (i + 1))]) (rest := [.int 1]) (n := 1) (K := fun r f1 g1 => r = some (.inl 1) ∧ True) (metX9_host l D adM tc) (pM_host hM (fun f1 g1 => ⟨rfl, trivial⟩)) F (lGoodV goodM lA_M (lA_L0 _ (List.mem_of_getElem? (i := 44) (by decide +kernel))) (lA_L0 _ (List.mem_of_getElem? (i := 45) (by decide +kernel))) (lA_L0 _ (List.mem_of_getElem? (i := 46) (by decide +kernel))) (lA_L0 _ (List.mem_of_getElem? (i := 5) (by decide +kernel))) (lA_L0 _ (List.mem_of_getElem? (i := 47) (by decide +kernel))) rfl) rfl rfl rfl (by decide +kernel) ⟨by decide, by decide⟩ rfl hl.1 (Nat.le_of_ble_eq_true rfl) dL_law_266 (Nat.le_of_succ_le hcl) (Nat.le_trans (Nat.le_add_right _ 6) hsl) hP hD hS (fun r fM gM H locs hk hP hD hS => ?_)
  obtain ⟨rfl, -⟩ := hk
  refine lv_icmp_eq (tgt := 871) hx hb dL_law_269 (by decide) (fun _ => ?_) (fun z => absurd rfl z)
  refine W.widen (k := cells + 1) (n := slots + 6) (by omega) (by omega) ?_
  exact kk H locs ls ⟨fC, gC, fM, gM, w, lv_sub hl [0, 1, 2, 3, 4] rfl, hP, hD, hS⟩
set_option maxHeartbeats 4000000 in
set_option maxRecDepth 100000 in
theorem case_4 {p : Program} {l : Launch} {e : Env} {s : State} {m : MethodId} {below : List Frame} {meth : Method} {c : Code} {H : Heap} {locs : List Loc} {cells slots : Nat} {Q : State → Prop} {D : va_G} {tc : Nat → ClassId} {cA : ClassId} {adC adM : Nat → Nat} {o b L i : Nat} {xs : Nat → Int32} {ls : Array Slot} (hls0 : l.stackTraces = false) (F : lFix p s m b c L xs D tc cA) (hi : i + 7 ≤ L) (hL : L ≤ 3584) (hcl : cells + 1 ≤ 600002) (hsl : slots + 6 ≤ 7302232) (hst : lSt1 D tc adC adM cA o b i s H locs ls)
    (kk : ∀ (H : Heap) (locs : List Loc) (ls : Array Slot), lSt2 D tc adC adM cA o b i s H locs ls → W p l e room_1 s m #[Value.ref b] below meth c H locs (cells + 1) (slots + 6) Q (F0 m 871 ls [])) : W p l e room_1 s m #[Value.ref b] below meth c H locs cells slots Q (F0 m 274 ls []) := by
  obtain ⟨hx, hb, hml, hown, hts, hK, hK2, hX, hbl, hTX⟩ := id F
  have hbA : ¬ (fun q : Nat => s.heap.size ≤ q) b := Nat.not_le.mpr hbl
  obtain ⟨fC, gC, fM, gM, w, hl, hP, hD, hS, hC, hM⟩ := hst
  obtain ⟨fc, fr, n, hc, hr⟩ : ∃ (fc fr : mFn) (n : Int), cI n 0 fc fC gC ∧ rI n 8000 fr fM gM := ⟨fC, fM, 1, cI_of hC, rI_of hM⟩
  refine lv_aload_n hx hb dL_law_274 rfl (lv_at hl 1 rfl) ?_
  refine lCallC (bytes := cX8_sent) (mx := 1) (ret := (some .int)) (rm := rmX8_sent) (av := []) (rest := []) (n := 0) (K := fun r f1 g1 => r = some (.inl 0) ∧ True) (metX8_sent l D adC tc) (pC_sent hC (fun f1 g1 => ⟨rfl, trivial⟩)) F (lGoodV goodC lA_C (lA_L0 _ (List.mem_of_getElem? (i := 48) (by decide +kernel))) (lA_L0 _ (List.mem_of_getElem? (i := 49) (by decide +kernel))) (lA_L0 _ (List.mem_of_getElem? (i := 50) (by decide +kernel))) (lA_L0 _ (List.mem_of_getElem? (i := 2) (by decide +kernel))) (lA_L0 _ (List.mem_of_getElem? (i := 51) (by decide +kernel))) rfl) rfl rfl rfl (by decide +kernel) ⟨by decide, by decide⟩ rfl hl.1 (Nat.le_of_ble_eq_true rfl) dL_law_275 (Nat.le_of_succ_le hcl) (Nat.le_trans (Nat.le_add_right _ 6) hsl) hP hD hS (fun r fC gC H locs hk hP hD hS => ?_)
  obtain ⟨rfl, -⟩ := hk
  refine lv_aload_n hx hb dL_law_278 rfl (lv_at hl 2 rfl) ?_
  refine lCallM (bytes := cX9_sent) (mx := 1) (ret := (some .int)) (rm := rmX9_sent) (av := []) (rest := [.int 0]) (n := 0) (K := fun r f1 g1 => r = some (.inl 0) ∧ True) (metX9_sent l D adM tc) (pM_sent hM (fun f1 g1 => ⟨rfl, trivial⟩)) F (lGoodV goodM lA_M (lA_L0 _ (List.mem_of_getElem? (i := 52) (by decide +kernel))) (lA_L0 _ (List.mem_of_getElem? (i := 53) (by decide +kernel))) (lA_L0 _ (List.mem_of_getElem? (i := 54) (by decide +kernel))) (lA_L0 _ (List.mem_of_getElem? (i := 5) (by decide +kernel))) (lA_L0 _ (List.mem_of_getElem? (i := 55) (by decide +kernel))) rfl) rfl rfl rfl (by decide +kernel) ⟨by decide, by decide⟩ rfl hl.1 (Nat.le_of_ble_eq_true rfl) dL_law_279 (Nat.le_of_succ_le hcl) (Nat.le_trans (Nat.le_add_right _ 6) hsl) hP hD hS (fun r fM gM H locs hk hP hD hS => ?_)
  obtain ⟨rfl, -⟩ := hk
  refine lv_icmp_eq (tgt := 871) hx hb dL_law_282 (by decide) (fun _ => ?_) (fun z => absurd rfl z)
  refine W.widen (k := cells + 1) (n := slots + 6) (by omega) (by omega) ?_
  exact kk H locs ls ⟨fC, gC, fM, gM, w, lv_sub hl [0, 1, 2, 3, 4] rfl, hP, hD, hS⟩
set_option maxHeartbeats 4000000 in
set_option maxRecDepth 100000 in
theorem case_5 {p : Program} {l : Launch} {e : Env} {s : State} {m : MethodId} {below : List Frame} {meth : Method} {c : Code} {H : Heap} {locs : List Loc} {cells slots : Nat} {Q : State → Prop} {D : va_G} {tc : Nat → ClassId} {cA : ClassId} {adC adM : Nat → Nat} {o b L i : Nat} {xs : Nat → Int32} {ls : Array Slot} (hls0 : l.stackTraces = false) (F : lFix p s m b c L xs D tc cA) (hi : i + 7 ≤ L) (hL : L ≤ 3584) (hcl : cells + 1 ≤ 600002) (hsl : slots + 6 ≤ 7302232) (hst : lSt1 D tc adC adM cA o b i s H locs ls)
    (kk : ∀ (H : Heap) (locs : List Loc) (ls : Array Slot), lSt2 D tc adC adM cA o b i s H locs ls → W p l e room_1 s m #[Value.ref b] below meth c H locs (cells + 1) (slots + 6) Q (F0 m 871 ls [])) : W p l e room_1 s m #[Value.ref b] below meth c H locs cells slots Q (F0 m 287 ls []) := by
  obtain ⟨hx, hb, hml, hown, hts, hK, hK2, hX, hbl, hTX⟩ := id F
  have hbA : ¬ (fun q : Nat => s.heap.size ≤ q) b := Nat.not_le.mpr hbl
  obtain ⟨fC, gC, fM, gM, w, hl, hP, hD, hS, hC, hM⟩ := hst
  obtain ⟨fc, fr, n, hc, hr⟩ : ∃ (fc fr : mFn) (n : Int), cI n 0 fc fC gC ∧ rI n 8000 fr fM gM := ⟨fC, fM, 1, cI_of hC, rI_of hM⟩
  refine lv_aload_n hx hb dL_law_287 rfl (lv_at hl 1 rfl) ?_
  refine lv_aload_n hx hb dL_law_288 rfl (lv_at hl 0 rfl) ?_
  refine lv_iload hx hb dL_law_289 (lv_at hl 4 rfl) ?_
  refine lv_iconst (v := 1) hx hb dL_law_291 (by decide) ?_
  refine lv_iadd hx hb dL_law_292 ?_
  rw [show nI i + (1 : Int32) = nI (i + 1) from nI_add i 1]
  refine va_sld hx hb hX hbl hbA hS (vp_in_nI (n := i + 1) (N := L) (by omega) (by omega)) dL_law_293 ?_
  rw [nI_clamp (show i + 1 < 2 ^ 31 by omega)]
  refine lv_aload_n hx hb dL_law_294 rfl (lv_at hl 3 rfl) ?_
  obtain ⟨sa, hT⟩ := hTX (63, "no such byte is kept", "java/util/NoSuchElementException") (by decide +kernel)
  refine lCallH (hh := [(0, 9, 12, 21)]) (bytes := cL_got) (mx := 4) (ret := (some .int)) (as := [.ref (adC 0), .int (xs (i + 1)), .ref o]) (rest := []) (n := 3) (K := fun k f1 g1 w1 => (False ∧ k = 0 ∧ ∃ y : Int32, (False) ∧ w1 = vp_updL w 0 y.toInt64) ∨ (¬ False ∧ k = 1)) (hlp_got l hls0 D adC tc cA o sa H.size (fun hz => (pC_got hC hz).elim) (fun _ => Or.inr ⟨id, rfl⟩)) hT F (lGoodS goodH lA_H (lA_L0 _ (List.mem_of_getElem? (i := 56) (by decide +kernel))) (lA_L0 _ (List.mem_of_getElem? (i := 57) (by decide +kernel))) (lA_L0 _ (List.mem_of_getElem? (i := 13) (by decide +kernel))) (lA_L0 _ (List.mem_of_getElem? (i := 58) (by decide +kernel))) rfl) rfl rfl rfl (by decide +kernel) ⟨by decide, by decide⟩ rfl hl.1 (Nat.le_of_ble_eq_true rfl) dL_law_295 hcl hsl hP hD hS (fun k fC gC w1 H locs hk hP hD hS => ?_)
  have hk0 := hk
  refine lv_istore (lv' := [(5, .int k), (0, .ref b), (1, .ref (adC 0)), (2, .ref (adM 0)), (3, .ref o), (4, .int (nI i))]) hx hb dL_law_298 hl (by decide) rfl (fun ls hl => ?_)
  refine lv_aload_n hx hb dL_law_300 rfl (lv_at hl 3 rfl) ?_
  refine lv_aload_n hx hb dL_law_301 rfl (lv_at hl 1 rfl) ?_
  refine lv_iload hx hb dL_law_302 (lv_at hl 5 rfl) ?_
  refine lv_iconst (v := 1) hx hb dL_law_304 (by decide) ?_
  refine lv_iadd hx hb dL_law_305 ?_
  rw [show nI i + (1 : Int32) = nI (i + 1) from nI_add i 1]
  refine va_sld hx hb hX hbl hbA hS (vp_in_nI (n := i + 1) (N := L) (by omega) (by omega)) dL_law_306 ?_
  rw [nI_clamp (show i + 1 < 2 ^ 31 by omega)]
  refine lCallM (bytes := cX9_got) (mx := 2) (ret := (some .int)) (rm := rmX9_got) (av := [.inl (xs (i + 1))]) (rest := []) (n := 1) (K := fun r f1 g1 => ∃ y, r = some (.inl y) ∧ (False → (False) ∧ f1 0 = 0) ∧ (¬ False → f1 0 = 1)) (metX9_got l D adM tc) (pM_got hM (fun y f1 g1 ha hb => ⟨y, rfl, ha, hb⟩)) F (lGoodV goodM lA_M (lA_L0 _ (List.mem_of_getElem? (i := 59) (by decide +kernel))) (lA_L0 _ (List.mem_of_getElem? (i := 60) (by decide +kernel))) (lA_L0 _ (List.mem_of_getElem? (i := 61) (by decide +kernel))) (lA_L0 _ (List.mem_of_getElem? (i := 5) (by decide +kernel))) (lA_L0 _ (List.mem_of_getElem? (i := 62) (by decide +kernel))) rfl) rfl rfl rfl (by decide +kernel) ⟨by decide, by decide⟩ rfl hl.1 (Nat.le_of_ble_eq_true rfl) dL_law_307 hcl hsl hP hD hS (fun r fM gM H locs hk hP hD hS => ?_)
  obtain ⟨y, rfl, hya, hyb⟩ := hk
  have hTh : fM 0 = k := by
    rcases hk0 with ⟨hz, rfl, -⟩ | ⟨hz, rfl⟩
    · exact (hya hz).2
    · exact hyb hz
  have hW : k = 0 → w1 (0 : Int32).toNatClampNeg = y.toInt64 := by
    intro z9
    rcases hk0 with ⟨hz, -, y2, hy2, rfl⟩ | ⟨hz, e⟩
    · rw [show y = y2 from hz.elim, show (0 : Int32).toNatClampNeg = 0 from by decide]; simp [vp_updL]
    · exact absurd (e.symm.trans z9) (by decide)
  refine lv_istore (lv' := [(6, .int y), (5, .int k), (0, .ref b), (1, .ref (adC 0)), (2, .ref (adM 0)), (3, .ref o), (4, .int (nI i))]) hx hb dL_law_310 hl (by decide) rfl (fun ls hl => ?_)
  refine lv_aload_n hx hb dL_law_312 rfl (lv_at hl 4 rfl) ?_
  refine lCallM (bytes := cX9_thrown) (mx := 1) (ret := (some .int)) (rm := rmX9_thrown) (av := []) (rest := []) (n := 0) (K := fun r f1 g1 => r = some (.inl (fM 0)) ∧ f1 = fM ∧ g1 = gM) (metX9_thrown l D adM tc) (sfX9_thrown fM gM _ ⟨rfl, rfl, rfl⟩) F (lGoodV goodM lA_M (lA_L0 _ (List.mem_of_getElem? (i := 29) (by decide +kernel))) (lA_L0 _ (List.mem_of_getElem? (i := 30) (by decide +kernel))) (lA_L0 _ (List.mem_of_getElem? (i := 31) (by decide +kernel))) (lA_L0 _ (List.mem_of_getElem? (i := 5) (by decide +kernel))) (lA_L0 _ (List.mem_of_getElem? (i := 32) (by decide +kernel))) rfl) rfl rfl rfl (by decide +kernel) ⟨by decide, by decide⟩ rfl hl.1 (Nat.le_of_ble_eq_true rfl) dL_law_313 hcl hsl hP hD hS (fun r f1 g1 H locs hk hP hD hS => ?_)
  obtain ⟨hr9, hf9, hg9⟩ := hk
  rw [hf9, hg9] at hP hD
  subst hr9
  refine lv_iload hx hb dL_law_316 (lv_at hl 1 rfl) ?_
  refine lv_icmp_eq (tgt := 323) hx hb dL_law_318 (by decide) (fun _ => ?_) (fun z => absurd hTh z)
  refine lv_iload hx hb dL_law_323 (lv_at hl 1 rfl) ?_
  refine lv_if_ne (tgt := 340) hx hb dL_law_325 (by decide) (fun zk => ?_) (fun zk => ?_)
  · refine lv_goto (tgt := 871) hx hb dL_law_340 (by decide) ?_
    exact kk H locs ls ⟨fC, gC, fM, gM, w1, lv_sub hl [2, 3, 4, 5, 6] rfl, hP, hD, hS⟩
  · refine lv_aload_n hx hb dL_law_328 rfl (lv_at hl 5 rfl) ?_
    refine lv_iconst (v := 0) hx hb dL_law_329 (by decide) ?_
    refine va_lald hx hb hK2 hP ((mW adC tc shC fC gC).length + 0) 0 (cA := cA) (n := 1) (f := w1) (by unfold lwW; exact vApp1 (vApp2 (j := 0) rfl)) rfl (i := 0) (vp_in_nI (n := 0) (N := 1) (by decide) (by decide)) dL_law_330 ?_
    refine lv_iload hx hb dL_law_331 (lv_at hl 0 rfl) ?_
    refine lv_i2l hx hb dL_law_333 rfl ?_
    refine W.lcmp hx hb dL_law_334 ?_
    rw [hW zk, lg_self]
    refine lv_if_eq (tgt := 340) hx hb dL_law_335 (by decide) (fun _ => ?_) (fun z => absurd rfl z)
    refine lv_goto (tgt := 871) hx hb dL_law_340 (by decide) ?_
    exact kk H locs ls ⟨fC, gC, fM, gM, w1, lv_sub hl [2, 3, 4, 5, 6] rfl, hP, hD, hS⟩
set_option maxHeartbeats 4000000 in
set_option maxRecDepth 100000 in
theorem case_6 {p : Program} {l : Launch} {e : Env} {s : State} {m : MethodId} {below : List Frame} {meth : Method} {c : Code} {H : Heap} {locs : List Loc} {cells slots : Nat} {Q : State → Prop} {D : va_G} {tc : Nat → ClassId} {cA : ClassId} {adC adM : Nat → Nat} {o b L i : Nat} {xs : Nat → Int32} {ls : Array Slot} (hls0 : l.stackTraces = false) (F : lFix p s m b c L xs D tc cA) (hi : i + 7 ≤ L) (hL : L ≤ 3584) (hcl : cells + 1 ≤ 600002) (hsl : slots + 6 ≤ 7302232) (hst : lSt1 D tc adC adM cA o b i s H locs ls)
    (kk : ∀ (H : Heap) (locs : List Loc) (ls : Array Slot), lSt2 D tc adC adM cA o b i s H locs ls → W p l e room_1 s m #[Value.ref b] below meth c H locs (cells + 1) (slots + 6) Q (F0 m 871 ls [])) : W p l e room_1 s m #[Value.ref b] below meth c H locs cells slots Q (F0 m 343 ls []) := by
  obtain ⟨hx, hb, hml, hown, hts, hK, hK2, hX, hbl, hTX⟩ := id F
  have hbA : ¬ (fun q : Nat => s.heap.size ≤ q) b := Nat.not_le.mpr hbl
  obtain ⟨fC, gC, fM, gM, w, hl, hP, hD, hS, hC, hM⟩ := hst
  obtain ⟨fc, fr, n, hc, hr⟩ : ∃ (fc fr : mFn) (n : Int), cI n 0 fc fC gC ∧ rI n 8000 fr fM gM := ⟨fC, fM, 1, cI_of hC, rI_of hM⟩
  refine lv_aload_n hx hb dL_law_343 rfl (lv_at hl 1 rfl) ?_
  refine lv_aload_n hx hb dL_law_344 rfl (lv_at hl 0 rfl) ?_
  refine lv_iload hx hb dL_law_345 (lv_at hl 4 rfl) ?_
  refine lv_iconst (v := 1) hx hb dL_law_347 (by decide) ?_
  refine lv_iadd hx hb dL_law_348 ?_
  rw [show nI i + (1 : Int32) = nI (i + 1) from nI_add i 1]
  refine va_sld hx hb hX hbl hbA hS (vp_in_nI (n := i + 1) (N := L) (by omega) (by omega)) dL_law_349 ?_
  rw [nI_clamp (show i + 1 < 2 ^ 31 by omega)]
  refine lv_aload_n hx hb dL_law_350 rfl (lv_at hl 0 rfl) ?_
  refine lv_iload hx hb dL_law_351 (lv_at hl 4 rfl) ?_
  refine lv_iconst (v := 2) hx hb dL_law_353 (by decide) ?_
  refine lv_iadd hx hb dL_law_354 ?_
  rw [show nI i + (2 : Int32) = nI (i + 2) from nI_add i 2]
  refine va_sld hx hb hX hbl hbA hS (vp_in_nI (n := i + 2) (N := L) (by omega) (by omega)) dL_law_355 ?_
  rw [nI_clamp (show i + 2 < 2 ^ 31 by omega)]
  refine lv_aload_n hx hb dL_law_356 rfl (lv_at hl 0 rfl) ?_
  refine lv_iload hx hb dL_law_357 (lv_at hl 4 rfl) ?_
  refine lv_iconst (v := 3) hx hb dL_law_359 (by decide) ?_
  refine lv_iadd hx hb dL_law_360 ?_
  rw [show nI i + (3 : Int32) = nI (i + 3) from nI_add i 3]
  refine va_sld hx hb hX hbl hbA hS (vp_in_nI (n := i + 3) (N := L) (by omega) (by omega)) dL_law_361 ?_
  rw [nI_clamp (show i + 3 < 2 ^ 31 by omega)]
  refine lv_aload_n hx hb dL_law_362 rfl (lv_at hl 0 rfl) ?_
  refine lv_iload hx hb dL_law_363 (lv_at hl 4 rfl) ?_
  refine lv_iconst (v := 4) hx hb dL_law_365 (by decide) ?_
  refine lv_iadd hx hb dL_law_366 ?_
  rw [show nI i + (4 : Int32) = nI (i + 4) from nI_add i 4]
  refine va_sld hx hb hX hbl hbA hS (vp_in_nI (n := i + 4) (N := L) (by omega) (by omega)) dL_law_367 ?_
  rw [nI_clamp (show i + 4 < 2 ^ 31 by omega)]
  refine lv_aload_n hx hb dL_law_368 rfl (lv_at hl 0 rfl) ?_
  refine lv_iload hx hb dL_law_369 (lv_at hl 4 rfl) ?_
  refine lv_iconst (v := 5) hx hb dL_law_371 (by decide) ?_
  refine lv_iadd hx hb dL_law_372 ?_
  rw [show nI i + (5 : Int32) = nI (i + 5) from nI_add i 5]
  refine va_sld hx hb hX hbl hbA hS (vp_in_nI (n := i + 5) (N := L) (by omega) (by omega)) dL_law_373 ?_
  rw [nI_clamp (show i + 5 < 2 ^ 31 by omega)]
  refine lv_aload_n hx hb dL_law_374 rfl (lv_at hl 0 rfl) ?_
  refine lv_iload hx hb dL_law_375 (lv_at hl 4 rfl) ?_
  refine lv_bipush (v := 6) hx hb dL_law_377 (by decide) ?_
  refine lv_iadd hx hb dL_law_379 ?_
  rw [show nI i + (6 : Int32) = nI (i + 6) from nI_add i 6]
  refine va_sld hx hb hX hbl hbA hS (vp_in_nI (n := i + 6) (N := L) (by omega) (by omega)) dL_law_380 ?_
  rw [nI_clamp (show i + 6 < 2 ^ 31 by omega)]
  refine lv_aload_n hx hb dL_law_381 rfl (lv_at hl 3 rfl) ?_
  obtain ⟨sa, hT⟩ := hTX (76, "no address of FLASH", "java/lang/IndexOutOfBoundsException") (by decide +kernel)
  refine lCallH (hh := [(0, 18, 21, 27)]) (bytes := cL_burn) (mx := 9) (ret := (some .int)) (as := [.ref (adC 0), .int (xs (i + 1)), .int (xs (i + 2)), .int (xs (i + 3)), .int (xs (i + 4)), .int (xs (i + 5)), .int (xs (i + 6)), .ref o]) (rest := []) (n := 8) (K := fun k f1 g1 w1 => cI n 0 fc f1 g1 ∧ ((rg 0 2047 ((xs (i + 1))) ∧ k = 0 ∧ ∃ y : Int32, y.toInt = min 10 (2048 - ((xs (i + 1))).toInt) ∧ w1 = vp_updL w 0 y.toInt64) ∨ (¬ rg 0 2047 ((xs (i + 1))) ∧ k = 1))) (hlp_burn l hls0 D adC tc cA o sa H.size (fun hz => sfX8_burn n 0 fc fC gC _ _ _ _ _ _ _ hz hc (fun y g1 hy h => ⟨y, rfl, h, Or.inl ⟨hz, rfl, y, hy, rfl⟩⟩)) (fun hz => ⟨hc, Or.inr ⟨hz, rfl⟩⟩)) hT F (lGoodS goodH lA_H (lA_L0 _ (List.mem_of_getElem? (i := 63) (by decide +kernel))) (lA_L0 _ (List.mem_of_getElem? (i := 64) (by decide +kernel))) (lA_L0 _ (List.mem_of_getElem? (i := 13) (by decide +kernel))) (lA_L0 _ (List.mem_of_getElem? (i := 65) (by decide +kernel))) rfl) rfl rfl rfl (by decide +kernel) ⟨by decide, by decide⟩ rfl hl.1 (Nat.le_of_ble_eq_true rfl) dL_law_382 hcl hsl hP hD hS (fun k fC gC w1 H locs hk hP hD hS => ?_)
  obtain ⟨hc, hk⟩ := hk
  have hk0 := hk
  refine lv_istore (lv' := [(5, .int k), (0, .ref b), (1, .ref (adC 0)), (2, .ref (adM 0)), (3, .ref o), (4, .int (nI i))]) hx hb dL_law_385 hl (by decide) rfl (fun ls hl => ?_)
  refine lv_aload_n hx hb dL_law_387 rfl (lv_at hl 3 rfl) ?_
  refine lv_aload_n hx hb dL_law_388 rfl (lv_at hl 1 rfl) ?_
  refine lv_iload hx hb dL_law_389 (lv_at hl 5 rfl) ?_
  refine lv_iconst (v := 1) hx hb dL_law_391 (by decide) ?_
  refine lv_iadd hx hb dL_law_392 ?_
  rw [show nI i + (1 : Int32) = nI (i + 1) from nI_add i 1]
  refine va_sld hx hb hX hbl hbA hS (vp_in_nI (n := i + 1) (N := L) (by omega) (by omega)) dL_law_393 ?_
  rw [nI_clamp (show i + 1 < 2 ^ 31 by omega)]
  refine lv_aload_n hx hb dL_law_394 rfl (lv_at hl 1 rfl) ?_
  refine lv_iload hx hb dL_law_395 (lv_at hl 5 rfl) ?_
  refine lv_iconst (v := 2) hx hb dL_law_397 (by decide) ?_
  refine lv_iadd hx hb dL_law_398 ?_
  rw [show nI i + (2 : Int32) = nI (i + 2) from nI_add i 2]
  refine va_sld hx hb hX hbl hbA hS (vp_in_nI (n := i + 2) (N := L) (by omega) (by omega)) dL_law_399 ?_
  rw [nI_clamp (show i + 2 < 2 ^ 31 by omega)]
  refine lv_aload_n hx hb dL_law_400 rfl (lv_at hl 1 rfl) ?_
  refine lv_iload hx hb dL_law_401 (lv_at hl 5 rfl) ?_
  refine lv_iconst (v := 3) hx hb dL_law_403 (by decide) ?_
  refine lv_iadd hx hb dL_law_404 ?_
  rw [show nI i + (3 : Int32) = nI (i + 3) from nI_add i 3]
  refine va_sld hx hb hX hbl hbA hS (vp_in_nI (n := i + 3) (N := L) (by omega) (by omega)) dL_law_405 ?_
  rw [nI_clamp (show i + 3 < 2 ^ 31 by omega)]
  refine lv_aload_n hx hb dL_law_406 rfl (lv_at hl 1 rfl) ?_
  refine lv_iload hx hb dL_law_407 (lv_at hl 5 rfl) ?_
  refine lv_iconst (v := 4) hx hb dL_law_409 (by decide) ?_
  refine lv_iadd hx hb dL_law_410 ?_
  rw [show nI i + (4 : Int32) = nI (i + 4) from nI_add i 4]
  refine va_sld hx hb hX hbl hbA hS (vp_in_nI (n := i + 4) (N := L) (by omega) (by omega)) dL_law_411 ?_
  rw [nI_clamp (show i + 4 < 2 ^ 31 by omega)]
  refine lv_aload_n hx hb dL_law_412 rfl (lv_at hl 1 rfl) ?_
  refine lv_iload hx hb dL_law_413 (lv_at hl 5 rfl) ?_
  refine lv_iconst (v := 5) hx hb dL_law_415 (by decide) ?_
  refine lv_iadd hx hb dL_law_416 ?_
  rw [show nI i + (5 : Int32) = nI (i + 5) from nI_add i 5]
  refine va_sld hx hb hX hbl hbA hS (vp_in_nI (n := i + 5) (N := L) (by omega) (by omega)) dL_law_417 ?_
  rw [nI_clamp (show i + 5 < 2 ^ 31 by omega)]
  refine lv_aload_n hx hb dL_law_418 rfl (lv_at hl 1 rfl) ?_
  refine lv_iload hx hb dL_law_419 (lv_at hl 5 rfl) ?_
  refine lv_bipush (v := 6) hx hb dL_law_421 (by decide) ?_
  refine lv_iadd hx hb dL_law_423 ?_
  rw [show nI i + (6 : Int32) = nI (i + 6) from nI_add i 6]
  refine va_sld hx hb hX hbl hbA hS (vp_in_nI (n := i + 6) (N := L) (by omega) (by omega)) dL_law_424 ?_
  rw [nI_clamp (show i + 6 < 2 ^ 31 by omega)]
  refine lCallM (bytes := cX9_burn) (mx := 8) (ret := (some .int)) (rm := rmX9_burn) (av := [.inl (xs (i + 1)), .inl (xs (i + 2)), .inl (xs (i + 3)), .inl (xs (i + 4)), .inl (xs (i + 5)), .inl (xs (i + 6))]) (rest := []) (n := 6) (K := fun r f1 g1 => ∃ y, r = some (.inl y) ∧ (rg 0 2047 (xs (i + 1)) → y.toInt = min 10 (2048 - ((xs (i + 1))).toInt) ∧ f1 0 = 0) ∧ (¬ rg 0 2047 (xs (i + 1)) → y = 0 ∧ f1 0 = 1) ∧ rI n 8000 fr f1 g1) (metX9_burn l D adM tc) (sfX9_burn _ 8000 fr fM gM _ _ _ _ _ _ _ hr (fun y f1 g1 ha hb h => ⟨y, rfl, ha, hb, h⟩)) F (lGoodV goodM lA_M (lA_L0 _ (List.mem_of_getElem? (i := 66) (by decide +kernel))) (lA_L0 _ (List.mem_of_getElem? (i := 67) (by decide +kernel))) (lA_L0 _ (List.mem_of_getElem? (i := 68) (by decide +kernel))) (lA_L0 _ (List.mem_of_getElem? (i := 5) (by decide +kernel))) (lA_L0 _ (List.mem_of_getElem? (i := 69) (by decide +kernel))) rfl) rfl rfl rfl (by decide +kernel) ⟨by decide, by decide⟩ rfl hl.1 (Nat.le_of_ble_eq_true rfl) dL_law_425 hcl hsl hP hD hS (fun r fM gM H locs hk hP hD hS => ?_)
  obtain ⟨y, rfl, hya, hyb, hr⟩ := hk
  have hTh : fM 0 = k := by
    rcases hk0 with ⟨hz, rfl, -⟩ | ⟨hz, rfl⟩
    · exact (hya hz).2
    · exact (hyb hz).2
  have hW : k = 0 → w1 (0 : Int32).toNatClampNeg = y.toInt64 := by
    intro z
    rcases hk0 with ⟨hz, -, y2, hy2, rfl⟩ | ⟨hz, e⟩
    · rw [show y = y2 from Int32.toInt_inj.mp ((hya hz).1.trans hy2.symm), show (0 : Int32).toNatClampNeg = 0 from by decide]; simp [vp_updL]
    · exact absurd (e.symm.trans z) (by decide)
  refine lv_istore (lv' := [(6, .int y), (5, .int k), (0, .ref b), (1, .ref (adC 0)), (2, .ref (adM 0)), (3, .ref o), (4, .int (nI i))]) hx hb dL_law_428 hl (by decide) rfl (fun ls hl => ?_)
  refine lv_aload_n hx hb dL_law_430 rfl (lv_at hl 4 rfl) ?_
  refine lCallM (bytes := cX9_thrown) (mx := 1) (ret := (some .int)) (rm := rmX9_thrown) (av := []) (rest := []) (n := 0) (K := fun r f1 g1 => r = some (.inl (fM 0)) ∧ f1 = fM ∧ g1 = gM) (metX9_thrown l D adM tc) (sfX9_thrown fM gM _ ⟨rfl, rfl, rfl⟩) F (lGoodV goodM lA_M (lA_L0 _ (List.mem_of_getElem? (i := 29) (by decide +kernel))) (lA_L0 _ (List.mem_of_getElem? (i := 30) (by decide +kernel))) (lA_L0 _ (List.mem_of_getElem? (i := 31) (by decide +kernel))) (lA_L0 _ (List.mem_of_getElem? (i := 5) (by decide +kernel))) (lA_L0 _ (List.mem_of_getElem? (i := 32) (by decide +kernel))) rfl) rfl rfl rfl (by decide +kernel) ⟨by decide, by decide⟩ rfl hl.1 (Nat.le_of_ble_eq_true rfl) dL_law_431 hcl hsl hP hD hS (fun r f1 g1 H locs hk hP hD hS => ?_)
  obtain ⟨hr9, hf9, hg9⟩ := hk
  rw [hf9, hg9] at hP hD
  subst hr9
  refine lv_iload hx hb dL_law_434 (lv_at hl 1 rfl) ?_
  refine lv_icmp_eq (tgt := 441) hx hb dL_law_436 (by decide) (fun _ => ?_) (fun z => absurd hTh z)
  refine lv_iload hx hb dL_law_441 (lv_at hl 1 rfl) ?_
  refine lv_if_ne (tgt := 458) hx hb dL_law_443 (by decide) (fun zk => ?_) (fun zk => ?_)
  · refine lv_goto (tgt := 871) hx hb dL_law_458 (by decide) ?_
    exact kk H locs ls ⟨fC, gC, fM, gM, w1, lv_sub hl [2, 3, 4, 5, 6] rfl, hP, hD, hS⟩
  · refine lv_aload_n hx hb dL_law_446 rfl (lv_at hl 5 rfl) ?_
    refine lv_iconst (v := 0) hx hb dL_law_447 (by decide) ?_
    refine va_lald hx hb hK2 hP ((mW adC tc shC fC gC).length + 0) 0 (cA := cA) (n := 1) (f := w1) (by unfold lwW; exact vApp1 (vApp2 (j := 0) rfl)) rfl (i := 0) (vp_in_nI (n := 0) (N := 1) (by decide) (by decide)) dL_law_448 ?_
    refine lv_iload hx hb dL_law_449 (lv_at hl 0 rfl) ?_
    refine lv_i2l hx hb dL_law_451 rfl ?_
    refine W.lcmp hx hb dL_law_452 ?_
    rw [hW zk, lg_self]
    refine lv_if_eq (tgt := 458) hx hb dL_law_453 (by decide) (fun _ => ?_) (fun z => absurd rfl z)
    refine lv_goto (tgt := 871) hx hb dL_law_458 (by decide) ?_
    exact kk H locs ls ⟨fC, gC, fM, gM, w1, lv_sub hl [2, 3, 4, 5, 6] rfl, hP, hD, hS⟩
set_option maxHeartbeats 4000000 in
set_option maxRecDepth 100000 in
theorem case_7 {p : Program} {l : Launch} {e : Env} {s : State} {m : MethodId} {below : List Frame} {meth : Method} {c : Code} {H : Heap} {locs : List Loc} {cells slots : Nat} {Q : State → Prop} {D : va_G} {tc : Nat → ClassId} {cA : ClassId} {adC adM : Nat → Nat} {o b L i : Nat} {xs : Nat → Int32} {ls : Array Slot} (hls0 : l.stackTraces = false) (F : lFix p s m b c L xs D tc cA) (hi : i + 7 ≤ L) (hL : L ≤ 3584) (hcl : cells + 1 ≤ 600002) (hsl : slots + 6 ≤ 7302232) (hst : lSt1 D tc adC adM cA o b i s H locs ls)
    (kk : ∀ (H : Heap) (locs : List Loc) (ls : Array Slot), lSt2 D tc adC adM cA o b i s H locs ls → W p l e room_1 s m #[Value.ref b] below meth c H locs (cells + 1) (slots + 6) Q (F0 m 871 ls [])) : W p l e room_1 s m #[Value.ref b] below meth c H locs cells slots Q (F0 m 461 ls []) := by
  obtain ⟨hx, hb, hml, hown, hts, hK, hK2, hX, hbl, hTX⟩ := id F
  have hbA : ¬ (fun q : Nat => s.heap.size ≤ q) b := Nat.not_le.mpr hbl
  obtain ⟨fC, gC, fM, gM, w, hl, hP, hD, hS, hC, hM⟩ := hst
  obtain ⟨fc, fr, n, hc, hr⟩ : ∃ (fc fr : mFn) (n : Int), cI n 0 fc fC gC ∧ rI n 8000 fr fM gM := ⟨fC, fM, 1, cI_of hC, rI_of hM⟩
  refine lv_aload_n hx hb dL_law_461 rfl (lv_at hl 1 rfl) ?_
  refine lv_aload_n hx hb dL_law_462 rfl (lv_at hl 0 rfl) ?_
  refine lv_iload hx hb dL_law_463 (lv_at hl 4 rfl) ?_
  refine lv_iconst (v := 1) hx hb dL_law_465 (by decide) ?_
  refine lv_iadd hx hb dL_law_466 ?_
  rw [show nI i + (1 : Int32) = nI (i + 1) from nI_add i 1]
  refine va_sld hx hb hX hbl hbA hS (vp_in_nI (n := i + 1) (N := L) (by omega) (by omega)) dL_law_467 ?_
  rw [nI_clamp (show i + 1 < 2 ^ 31 by omega)]
  refine lv_aload_n hx hb dL_law_468 rfl (lv_at hl 3 rfl) ?_
  obtain ⟨sa, hT⟩ := hTX (76, "no address of FLASH", "java/lang/IndexOutOfBoundsException") (by decide +kernel)
  refine lCallH (hh := [(0, 9, 12, 27)]) (bytes := cL_word) (mx := 4) (ret := (some .int)) (as := [.ref (adC 0), .int (xs (i + 1)), .ref o]) (rest := []) (n := 3) (K := fun k f1 g1 w1 => (rg 0 2047 ((xs (i + 1))) ∧ k = 0 ∧ ∃ y : Int32, (y = gWords ((xs (i + 1))).toNatClampNeg) ∧ w1 = vp_updL w 0 y.toInt64) ∨ (¬ rg 0 2047 ((xs (i + 1))) ∧ k = 1)) (hlp_word l hls0 D adC tc cA o sa H.size (fun hz => pC_word hC hz (fun y f1 g1 hy => ⟨y, rfl, Or.inl ⟨hz, rfl, y, hy, rfl⟩⟩)) (fun hz => Or.inr ⟨hz, rfl⟩)) hT F (lGoodS goodH lA_H (lA_L0 _ (List.mem_of_getElem? (i := 70) (by decide +kernel))) (lA_L0 _ (List.mem_of_getElem? (i := 71) (by decide +kernel))) (lA_L0 _ (List.mem_of_getElem? (i := 13) (by decide +kernel))) (lA_L0 _ (List.mem_of_getElem? (i := 72) (by decide +kernel))) rfl) rfl rfl rfl (by decide +kernel) ⟨by decide, by decide⟩ rfl hl.1 (Nat.le_of_ble_eq_true rfl) dL_law_469 hcl hsl hP hD hS (fun k fC gC w1 H locs hk hP hD hS => ?_)
  have hk0 := hk
  refine lv_istore (lv' := [(5, .int k), (0, .ref b), (1, .ref (adC 0)), (2, .ref (adM 0)), (3, .ref o), (4, .int (nI i))]) hx hb dL_law_472 hl (by decide) rfl (fun ls hl => ?_)
  refine lv_aload_n hx hb dL_law_474 rfl (lv_at hl 3 rfl) ?_
  refine lv_aload_n hx hb dL_law_475 rfl (lv_at hl 1 rfl) ?_
  refine lv_iload hx hb dL_law_476 (lv_at hl 5 rfl) ?_
  refine lv_iconst (v := 1) hx hb dL_law_478 (by decide) ?_
  refine lv_iadd hx hb dL_law_479 ?_
  rw [show nI i + (1 : Int32) = nI (i + 1) from nI_add i 1]
  refine va_sld hx hb hX hbl hbA hS (vp_in_nI (n := i + 1) (N := L) (by omega) (by omega)) dL_law_480 ?_
  rw [nI_clamp (show i + 1 < 2 ^ 31 by omega)]
  refine lCallM (bytes := cX9_word) (mx := 2) (ret := (some .int)) (rm := rmX9_word) (av := [.inl (xs (i + 1))]) (rest := []) (n := 1) (K := fun r f1 g1 => ∃ y, r = some (.inl y) ∧ (rg 0 2047 (xs (i + 1)) → (y = gWords ((xs (i + 1))).toNatClampNeg) ∧ f1 0 = 0) ∧ (¬ rg 0 2047 (xs (i + 1)) → f1 0 = 1)) (metX9_word l D adM tc) (pM_word hM (fun y f1 g1 ha hb => ⟨y, rfl, ha, hb⟩)) F (lGoodV goodM lA_M (lA_L0 _ (List.mem_of_getElem? (i := 73) (by decide +kernel))) (lA_L0 _ (List.mem_of_getElem? (i := 74) (by decide +kernel))) (lA_L0 _ (List.mem_of_getElem? (i := 75) (by decide +kernel))) (lA_L0 _ (List.mem_of_getElem? (i := 5) (by decide +kernel))) (lA_L0 _ (List.mem_of_getElem? (i := 76) (by decide +kernel))) rfl) rfl rfl rfl (by decide +kernel) ⟨by decide, by decide⟩ rfl hl.1 (Nat.le_of_ble_eq_true rfl) dL_law_481 hcl hsl hP hD hS (fun r fM gM H locs hk hP hD hS => ?_)
  obtain ⟨y, rfl, hya, hyb⟩ := hk
  have hTh : fM 0 = k := by
    rcases hk0 with ⟨hz, rfl, -⟩ | ⟨hz, rfl⟩
    · exact (hya hz).2
    · exact hyb hz
  have hW : k = 0 → w1 (0 : Int32).toNatClampNeg = y.toInt64 := by
    intro z9
    rcases hk0 with ⟨hz, -, y2, hy2, rfl⟩ | ⟨hz, e⟩
    · rw [show y = y2 from (hya hz).1.trans hy2.symm, show (0 : Int32).toNatClampNeg = 0 from by decide]; simp [vp_updL]
    · exact absurd (e.symm.trans z9) (by decide)
  refine lv_istore (lv' := [(6, .int y), (5, .int k), (0, .ref b), (1, .ref (adC 0)), (2, .ref (adM 0)), (3, .ref o), (4, .int (nI i))]) hx hb dL_law_484 hl (by decide) rfl (fun ls hl => ?_)
  refine lv_aload_n hx hb dL_law_486 rfl (lv_at hl 4 rfl) ?_
  refine lCallM (bytes := cX9_thrown) (mx := 1) (ret := (some .int)) (rm := rmX9_thrown) (av := []) (rest := []) (n := 0) (K := fun r f1 g1 => r = some (.inl (fM 0)) ∧ f1 = fM ∧ g1 = gM) (metX9_thrown l D adM tc) (sfX9_thrown fM gM _ ⟨rfl, rfl, rfl⟩) F (lGoodV goodM lA_M (lA_L0 _ (List.mem_of_getElem? (i := 29) (by decide +kernel))) (lA_L0 _ (List.mem_of_getElem? (i := 30) (by decide +kernel))) (lA_L0 _ (List.mem_of_getElem? (i := 31) (by decide +kernel))) (lA_L0 _ (List.mem_of_getElem? (i := 5) (by decide +kernel))) (lA_L0 _ (List.mem_of_getElem? (i := 32) (by decide +kernel))) rfl) rfl rfl rfl (by decide +kernel) ⟨by decide, by decide⟩ rfl hl.1 (Nat.le_of_ble_eq_true rfl) dL_law_487 hcl hsl hP hD hS (fun r f1 g1 H locs hk hP hD hS => ?_)
  obtain ⟨hr9, hf9, hg9⟩ := hk
  rw [hf9, hg9] at hP hD
  subst hr9
  refine lv_iload hx hb dL_law_490 (lv_at hl 1 rfl) ?_
  refine lv_icmp_eq (tgt := 497) hx hb dL_law_492 (by decide) (fun _ => ?_) (fun z => absurd hTh z)
  refine lv_iload hx hb dL_law_497 (lv_at hl 1 rfl) ?_
  refine lv_if_ne (tgt := 514) hx hb dL_law_499 (by decide) (fun zk => ?_) (fun zk => ?_)
  · refine lv_goto (tgt := 871) hx hb dL_law_514 (by decide) ?_
    exact kk H locs ls ⟨fC, gC, fM, gM, w1, lv_sub hl [2, 3, 4, 5, 6] rfl, hP, hD, hS⟩
  · refine lv_aload_n hx hb dL_law_502 rfl (lv_at hl 5 rfl) ?_
    refine lv_iconst (v := 0) hx hb dL_law_503 (by decide) ?_
    refine va_lald hx hb hK2 hP ((mW adC tc shC fC gC).length + 0) 0 (cA := cA) (n := 1) (f := w1) (by unfold lwW; exact vApp1 (vApp2 (j := 0) rfl)) rfl (i := 0) (vp_in_nI (n := 0) (N := 1) (by decide) (by decide)) dL_law_504 ?_
    refine lv_iload hx hb dL_law_505 (lv_at hl 0 rfl) ?_
    refine lv_i2l hx hb dL_law_507 rfl ?_
    refine W.lcmp hx hb dL_law_508 ?_
    rw [hW zk, lg_self]
    refine lv_if_eq (tgt := 514) hx hb dL_law_509 (by decide) (fun _ => ?_) (fun z => absurd rfl z)
    refine lv_goto (tgt := 871) hx hb dL_law_514 (by decide) ?_
    exact kk H locs ls ⟨fC, gC, fM, gM, w1, lv_sub hl [2, 3, 4, 5, 6] rfl, hP, hD, hS⟩
set_option maxHeartbeats 4000000 in
set_option maxRecDepth 100000 in
theorem case_8 {p : Program} {l : Launch} {e : Env} {s : State} {m : MethodId} {below : List Frame} {meth : Method} {c : Code} {H : Heap} {locs : List Loc} {cells slots : Nat} {Q : State → Prop} {D : va_G} {tc : Nat → ClassId} {cA : ClassId} {adC adM : Nat → Nat} {o b L i : Nat} {xs : Nat → Int32} {ls : Array Slot} (hls0 : l.stackTraces = false) (F : lFix p s m b c L xs D tc cA) (hi : i + 7 ≤ L) (hL : L ≤ 3584) (hcl : cells + 1 ≤ 600002) (hsl : slots + 6 ≤ 7302232) (hst : lSt1 D tc adC adM cA o b i s H locs ls)
    (kk : ∀ (H : Heap) (locs : List Loc) (ls : Array Slot), lSt2 D tc adC adM cA o b i s H locs ls → W p l e room_1 s m #[Value.ref b] below meth c H locs (cells + 1) (slots + 6) Q (F0 m 871 ls [])) : W p l e room_1 s m #[Value.ref b] below meth c H locs cells slots Q (F0 m 517 ls []) := by
  obtain ⟨hx, hb, hml, hown, hts, hK, hK2, hX, hbl, hTX⟩ := id F
  have hbA : ¬ (fun q : Nat => s.heap.size ≤ q) b := Nat.not_le.mpr hbl
  obtain ⟨fC, gC, fM, gM, w, hl, hP, hD, hS, hC, hM⟩ := hst
  obtain ⟨fc, fr, n, hc, hr⟩ : ∃ (fc fr : mFn) (n : Int), cI n 0 fc fC gC ∧ rI n 8000 fr fM gM := ⟨fC, fM, 1, cI_of hC, rI_of hM⟩
  refine lv_aload_n hx hb dL_law_517 rfl (lv_at hl 1 rfl) ?_
  refine lv_aload_n hx hb dL_law_518 rfl (lv_at hl 0 rfl) ?_
  refine lv_iload hx hb dL_law_519 (lv_at hl 4 rfl) ?_
  refine lv_iconst (v := 1) hx hb dL_law_521 (by decide) ?_
  refine lv_iadd hx hb dL_law_522 ?_
  rw [show nI i + (1 : Int32) = nI (i + 1) from nI_add i 1]
  refine va_sld hx hb hX hbl hbA hS (vp_in_nI (n := i + 1) (N := L) (by omega) (by omega)) dL_law_523 ?_
  rw [nI_clamp (show i + 1 < 2 ^ 31 by omega)]
  refine lv_aload_n hx hb dL_law_524 rfl (lv_at hl 3 rfl) ?_
  obtain ⟨sa, hT⟩ := hTX (92, "no address of DATA", "java/lang/IndexOutOfBoundsException") (by decide +kernel)
  refine lCallH (hh := [(0, 9, 12, 27)]) (bytes := cL_data) (mx := 4) (ret := (some .int)) (as := [.ref (adC 0), .int (xs (i + 1)), .ref o]) (rest := []) (n := 3) (K := fun k f1 g1 w1 => (rg 0 1279 ((xs (i + 1))) ∧ k = 0 ∧ ∃ y : Int32, (y = nI (datN ((xs (i + 1))).toNatClampNeg)) ∧ w1 = vp_updL w 0 y.toInt64) ∨ (¬ rg 0 1279 ((xs (i + 1))) ∧ k = 1)) (hlp_data l hls0 D adC tc cA o sa H.size (fun hz => pC_data hC hz (fun y f1 g1 hy => ⟨y, rfl, Or.inl ⟨hz, rfl, y, hy, rfl⟩⟩)) (fun hz => Or.inr ⟨hz, rfl⟩)) hT F (lGoodS goodH lA_H (lA_L0 _ (List.mem_of_getElem? (i := 77) (by decide +kernel))) (lA_L0 _ (List.mem_of_getElem? (i := 78) (by decide +kernel))) (lA_L0 _ (List.mem_of_getElem? (i := 13) (by decide +kernel))) (lA_L0 _ (List.mem_of_getElem? (i := 79) (by decide +kernel))) rfl) rfl rfl rfl (by decide +kernel) ⟨by decide, by decide⟩ rfl hl.1 (Nat.le_of_ble_eq_true rfl) dL_law_525 hcl hsl hP hD hS (fun k fC gC w1 H locs hk hP hD hS => ?_)
  have hk0 := hk
  refine lv_istore (lv' := [(5, .int k), (0, .ref b), (1, .ref (adC 0)), (2, .ref (adM 0)), (3, .ref o), (4, .int (nI i))]) hx hb dL_law_528 hl (by decide) rfl (fun ls hl => ?_)
  refine lv_aload_n hx hb dL_law_530 rfl (lv_at hl 3 rfl) ?_
  refine lv_aload_n hx hb dL_law_531 rfl (lv_at hl 1 rfl) ?_
  refine lv_iload hx hb dL_law_532 (lv_at hl 5 rfl) ?_
  refine lv_iconst (v := 1) hx hb dL_law_534 (by decide) ?_
  refine lv_iadd hx hb dL_law_535 ?_
  rw [show nI i + (1 : Int32) = nI (i + 1) from nI_add i 1]
  refine va_sld hx hb hX hbl hbA hS (vp_in_nI (n := i + 1) (N := L) (by omega) (by omega)) dL_law_536 ?_
  rw [nI_clamp (show i + 1 < 2 ^ 31 by omega)]
  refine lCallM (bytes := cX9_data) (mx := 2) (ret := (some .int)) (rm := rmX9_data) (av := [.inl (xs (i + 1))]) (rest := []) (n := 1) (K := fun r f1 g1 => ∃ y, r = some (.inl y) ∧ (rg 0 1279 (xs (i + 1)) → (y = nI (datN ((xs (i + 1))).toNatClampNeg)) ∧ f1 0 = 0) ∧ (¬ rg 0 1279 (xs (i + 1)) → f1 0 = 1)) (metX9_data l D adM tc) (pM_data hM (fun y f1 g1 ha hb => ⟨y, rfl, ha, hb⟩)) F (lGoodV goodM lA_M (lA_L0 _ (List.mem_of_getElem? (i := 80) (by decide +kernel))) (lA_L0 _ (List.mem_of_getElem? (i := 81) (by decide +kernel))) (lA_L0 _ (List.mem_of_getElem? (i := 82) (by decide +kernel))) (lA_L0 _ (List.mem_of_getElem? (i := 5) (by decide +kernel))) (lA_L0 _ (List.mem_of_getElem? (i := 83) (by decide +kernel))) rfl) rfl rfl rfl (by decide +kernel) ⟨by decide, by decide⟩ rfl hl.1 (Nat.le_of_ble_eq_true rfl) dL_law_537 hcl hsl hP hD hS (fun r fM gM H locs hk hP hD hS => ?_)
  obtain ⟨y, rfl, hya, hyb⟩ := hk
  have hTh : fM 0 = k := by
    rcases hk0 with ⟨hz, rfl, -⟩ | ⟨hz, rfl⟩
    · exact (hya hz).2
    · exact hyb hz
  have hW : k = 0 → w1 (0 : Int32).toNatClampNeg = y.toInt64 := by
    intro z9
    rcases hk0 with ⟨hz, -, y2, hy2, rfl⟩ | ⟨hz, e⟩
    · rw [show y = y2 from (hya hz).1.trans hy2.symm, show (0 : Int32).toNatClampNeg = 0 from by decide]; simp [vp_updL]
    · exact absurd (e.symm.trans z9) (by decide)
  refine lv_istore (lv' := [(6, .int y), (5, .int k), (0, .ref b), (1, .ref (adC 0)), (2, .ref (adM 0)), (3, .ref o), (4, .int (nI i))]) hx hb dL_law_540 hl (by decide) rfl (fun ls hl => ?_)
  refine lv_aload_n hx hb dL_law_542 rfl (lv_at hl 4 rfl) ?_
  refine lCallM (bytes := cX9_thrown) (mx := 1) (ret := (some .int)) (rm := rmX9_thrown) (av := []) (rest := []) (n := 0) (K := fun r f1 g1 => r = some (.inl (fM 0)) ∧ f1 = fM ∧ g1 = gM) (metX9_thrown l D adM tc) (sfX9_thrown fM gM _ ⟨rfl, rfl, rfl⟩) F (lGoodV goodM lA_M (lA_L0 _ (List.mem_of_getElem? (i := 29) (by decide +kernel))) (lA_L0 _ (List.mem_of_getElem? (i := 30) (by decide +kernel))) (lA_L0 _ (List.mem_of_getElem? (i := 31) (by decide +kernel))) (lA_L0 _ (List.mem_of_getElem? (i := 5) (by decide +kernel))) (lA_L0 _ (List.mem_of_getElem? (i := 32) (by decide +kernel))) rfl) rfl rfl rfl (by decide +kernel) ⟨by decide, by decide⟩ rfl hl.1 (Nat.le_of_ble_eq_true rfl) dL_law_543 hcl hsl hP hD hS (fun r f1 g1 H locs hk hP hD hS => ?_)
  obtain ⟨hr9, hf9, hg9⟩ := hk
  rw [hf9, hg9] at hP hD
  subst hr9
  refine lv_iload hx hb dL_law_546 (lv_at hl 1 rfl) ?_
  refine lv_icmp_eq (tgt := 553) hx hb dL_law_548 (by decide) (fun _ => ?_) (fun z => absurd hTh z)
  refine lv_iload hx hb dL_law_553 (lv_at hl 1 rfl) ?_
  refine lv_if_ne (tgt := 570) hx hb dL_law_555 (by decide) (fun zk => ?_) (fun zk => ?_)
  · refine lv_goto (tgt := 871) hx hb dL_law_570 (by decide) ?_
    exact kk H locs ls ⟨fC, gC, fM, gM, w1, lv_sub hl [2, 3, 4, 5, 6] rfl, hP, hD, hS⟩
  · refine lv_aload_n hx hb dL_law_558 rfl (lv_at hl 5 rfl) ?_
    refine lv_iconst (v := 0) hx hb dL_law_559 (by decide) ?_
    refine va_lald hx hb hK2 hP ((mW adC tc shC fC gC).length + 0) 0 (cA := cA) (n := 1) (f := w1) (by unfold lwW; exact vApp1 (vApp2 (j := 0) rfl)) rfl (i := 0) (vp_in_nI (n := 0) (N := 1) (by decide) (by decide)) dL_law_560 ?_
    refine lv_iload hx hb dL_law_561 (lv_at hl 0 rfl) ?_
    refine lv_i2l hx hb dL_law_563 rfl ?_
    refine W.lcmp hx hb dL_law_564 ?_
    rw [hW zk, lg_self]
    refine lv_if_eq (tgt := 570) hx hb dL_law_565 (by decide) (fun _ => ?_) (fun z => absurd rfl z)
    refine lv_goto (tgt := 871) hx hb dL_law_570 (by decide) ?_
    exact kk H locs ls ⟨fC, gC, fM, gM, w1, lv_sub hl [2, 3, 4, 5, 6] rfl, hP, hD, hS⟩
set_option maxHeartbeats 4000000 in
set_option maxRecDepth 100000 in
theorem case_9 {p : Program} {l : Launch} {e : Env} {s : State} {m : MethodId} {below : List Frame} {meth : Method} {c : Code} {H : Heap} {locs : List Loc} {cells slots : Nat} {Q : State → Prop} {D : va_G} {tc : Nat → ClassId} {cA : ClassId} {adC adM : Nat → Nat} {o b L i : Nat} {xs : Nat → Int32} {ls : Array Slot} (hls0 : l.stackTraces = false) (F : lFix p s m b c L xs D tc cA) (hi : i + 7 ≤ L) (hL : L ≤ 3584) (hcl : cells + 1 ≤ 600002) (hsl : slots + 6 ≤ 7302232) (hst : lSt1 D tc adC adM cA o b i s H locs ls)
    (kk : ∀ (H : Heap) (locs : List Loc) (ls : Array Slot), lSt2 D tc adC adM cA o b i s H locs ls → W p l e room_1 s m #[Value.ref b] below meth c H locs (cells + 1) (slots + 6) Q (F0 m 871 ls [])) : W p l e room_1 s m #[Value.ref b] below meth c H locs cells slots Q (F0 m 573 ls []) := by
  obtain ⟨hx, hb, hml, hown, hts, hK, hK2, hX, hbl, hTX⟩ := id F
  have hbA : ¬ (fun q : Nat => s.heap.size ≤ q) b := Nat.not_le.mpr hbl
  obtain ⟨fC, gC, fM, gM, w, hl, hP, hD, hS, hC, hM⟩ := hst
  obtain ⟨fc, fr, n, hc, hr⟩ : ∃ (fc fr : mFn) (n : Int), cI n 0 fc fC gC ∧ rI n 8000 fr fM gM := ⟨fC, fM, 1, cI_of hC, rI_of hM⟩
  refine lv_aload_n hx hb dL_law_573 rfl (lv_at hl 1 rfl) ?_
  refine lv_aload_n hx hb dL_law_574 rfl (lv_at hl 0 rfl) ?_
  refine lv_iload hx hb dL_law_575 (lv_at hl 4 rfl) ?_
  refine lv_iconst (v := 1) hx hb dL_law_577 (by decide) ?_
  refine lv_iadd hx hb dL_law_578 ?_
  rw [show nI i + (1 : Int32) = nI (i + 1) from nI_add i 1]
  refine va_sld hx hb hX hbl hbA hS (vp_in_nI (n := i + 1) (N := L) (by omega) (by omega)) dL_law_579 ?_
  rw [nI_clamp (show i + 1 < 2 ^ 31 by omega)]
  refine lv_aload_n hx hb dL_law_580 rfl (lv_at hl 0 rfl) ?_
  refine lv_iload hx hb dL_law_581 (lv_at hl 4 rfl) ?_
  refine lv_iconst (v := 2) hx hb dL_law_583 (by decide) ?_
  refine lv_iadd hx hb dL_law_584 ?_
  rw [show nI i + (2 : Int32) = nI (i + 2) from nI_add i 2]
  refine va_sld hx hb hX hbl hbA hS (vp_in_nI (n := i + 2) (N := L) (by omega) (by omega)) dL_law_585 ?_
  rw [nI_clamp (show i + 2 < 2 ^ 31 by omega)]
  obtain ⟨sa, hT⟩ := hTX (103, "no register, SP, SREG or RAM", "java/lang/IndexOutOfBoundsException") (by decide +kernel)
  refine lCallH (hh := [(0, 6, 9, 27)]) (bytes := cL_put) (mx := 4) (ret := (some .int)) (as := [.ref (adC 0), .int (xs (i + 1)), .int (xs (i + 2))]) (rest := []) (n := 3) (K := fun k f1 g1 w1 => cI n 0 fc f1 g1 ∧ ((vPut ((xs (i + 1))) ∧ k = 0) ∨ (¬ vPut ((xs (i + 1))) ∧ k = 1))) (hlp_put l hls0 D adC tc cA o sa H.size (fun hz => sfX8_put n 0 fc fC gC _ _ _ hz hc (fun g1 h => ⟨rfl, h, Or.inl ⟨hz, rfl⟩⟩)) (fun hz => ⟨hc, Or.inr ⟨hz, rfl⟩⟩)) hT F (lGoodS goodH lA_H (lA_L0 _ (List.mem_of_getElem? (i := 84) (by decide +kernel))) (lA_L0 _ (List.mem_of_getElem? (i := 85) (by decide +kernel))) (lA_L0 _ (List.mem_of_getElem? (i := 13) (by decide +kernel))) (lA_L0 _ (List.mem_of_getElem? (i := 86) (by decide +kernel))) rfl) rfl rfl rfl (by decide +kernel) ⟨by decide, by decide⟩ rfl hl.1 (Nat.le_of_ble_eq_true rfl) dL_law_586 hcl hsl hP hD hS (fun k fC gC w1 H locs hk hP hD hS => ?_)
  obtain ⟨hc, hk⟩ := hk
  have hk0 := hk
  refine lv_istore (lv' := [(5, .int k), (0, .ref b), (1, .ref (adC 0)), (2, .ref (adM 0)), (3, .ref o), (4, .int (nI i))]) hx hb dL_law_589 hl (by decide) rfl (fun ls hl => ?_)
  refine lv_aload_n hx hb dL_law_591 rfl (lv_at hl 3 rfl) ?_
  refine lv_aload_n hx hb dL_law_592 rfl (lv_at hl 1 rfl) ?_
  refine lv_iload hx hb dL_law_593 (lv_at hl 5 rfl) ?_
  refine lv_iconst (v := 1) hx hb dL_law_595 (by decide) ?_
  refine lv_iadd hx hb dL_law_596 ?_
  rw [show nI i + (1 : Int32) = nI (i + 1) from nI_add i 1]
  refine va_sld hx hb hX hbl hbA hS (vp_in_nI (n := i + 1) (N := L) (by omega) (by omega)) dL_law_597 ?_
  rw [nI_clamp (show i + 1 < 2 ^ 31 by omega)]
  refine lv_aload_n hx hb dL_law_598 rfl (lv_at hl 1 rfl) ?_
  refine lv_iload hx hb dL_law_599 (lv_at hl 5 rfl) ?_
  refine lv_iconst (v := 2) hx hb dL_law_601 (by decide) ?_
  refine lv_iadd hx hb dL_law_602 ?_
  rw [show nI i + (2 : Int32) = nI (i + 2) from nI_add i 2]
  refine va_sld hx hb hX hbl hbA hS (vp_in_nI (n := i + 2) (N := L) (by omega) (by omega)) dL_law_603 ?_
  rw [nI_clamp (show i + 2 < 2 ^ 31 by omega)]
  refine lCallM (bytes := cX9_put) (mx := 3) (ret := none) (rm := rmX9_put) (av := [.inl (xs (i + 1)), .inl (xs (i + 2))]) (rest := []) (n := 2) (K := fun r f1 g1 => r = none ∧ (vPut (xs (i + 1)) → f1 0 = 0) ∧ (¬ vPut (xs (i + 1)) → f1 0 = 1) ∧ rI n 8000 fr f1 g1) (metX9_put l D adM tc) (sfX9_put _ 8000 fr fM gM _ _ _ hr (fun f1 g1 ha hb h => ⟨rfl, ha, hb, h⟩)) F (lGoodV goodM lA_M (lA_L0 _ (List.mem_of_getElem? (i := 87) (by decide +kernel))) (lA_L0 _ (List.mem_of_getElem? (i := 88) (by decide +kernel))) (lA_L0 _ (List.mem_of_getElem? (i := 89) (by decide +kernel))) (lA_L0 _ (List.mem_of_getElem? (i := 5) (by decide +kernel))) (lA_L0 _ (List.mem_of_getElem? (i := 90) (by decide +kernel))) rfl) rfl rfl rfl (by decide +kernel) ⟨by decide, by decide⟩ rfl hl.1 (Nat.le_of_ble_eq_true rfl) dL_law_604 hcl hsl hP hD hS (fun r fM gM H locs hk hP hD hS => ?_)
  obtain ⟨rfl, hya, hyb, hr⟩ := hk
  have hTh : fM 0 = k := by
    rcases hk0 with ⟨hz, rfl⟩ | ⟨hz, rfl⟩
    · exact hya hz
    · exact hyb hz
  refine lv_aload_n hx hb dL_law_607 rfl (lv_at hl 3 rfl) ?_
  refine lCallM (bytes := cX9_thrown) (mx := 1) (ret := (some .int)) (rm := rmX9_thrown) (av := []) (rest := []) (n := 0) (K := fun r f1 g1 => r = some (.inl (fM 0)) ∧ f1 = fM ∧ g1 = gM) (metX9_thrown l D adM tc) (sfX9_thrown fM gM _ ⟨rfl, rfl, rfl⟩) F (lGoodV goodM lA_M (lA_L0 _ (List.mem_of_getElem? (i := 29) (by decide +kernel))) (lA_L0 _ (List.mem_of_getElem? (i := 30) (by decide +kernel))) (lA_L0 _ (List.mem_of_getElem? (i := 31) (by decide +kernel))) (lA_L0 _ (List.mem_of_getElem? (i := 5) (by decide +kernel))) (lA_L0 _ (List.mem_of_getElem? (i := 32) (by decide +kernel))) rfl) rfl rfl rfl (by decide +kernel) ⟨by decide, by decide⟩ rfl hl.1 (Nat.le_of_ble_eq_true rfl) dL_law_608 hcl hsl hP hD hS (fun r f1 g1 H locs hk hP hD hS => ?_)
  obtain ⟨hr9, hf9, hg9⟩ := hk
  rw [hf9, hg9] at hP hD
  subst hr9
  refine lv_iload hx hb dL_law_611 (lv_at hl 0 rfl) ?_
  refine lv_icmp_eq (tgt := 618) hx hb dL_law_613 (by decide) (fun _ => ?_) (fun z => absurd hTh z)
  refine lv_goto (tgt := 871) hx hb dL_law_618 (by decide) ?_
  exact kk H locs ls ⟨fC, gC, fM, gM, w1, lv_sub hl [1, 2, 3, 4, 5] rfl, hP, hD, hS⟩
set_option maxHeartbeats 4000000 in
set_option maxRecDepth 100000 in
theorem case_10 {p : Program} {l : Launch} {e : Env} {s : State} {m : MethodId} {below : List Frame} {meth : Method} {c : Code} {H : Heap} {locs : List Loc} {cells slots : Nat} {Q : State → Prop} {D : va_G} {tc : Nat → ClassId} {cA : ClassId} {adC adM : Nat → Nat} {o b L i : Nat} {xs : Nat → Int32} {ls : Array Slot} (hls0 : l.stackTraces = false) (F : lFix p s m b c L xs D tc cA) (hi : i + 7 ≤ L) (hL : L ≤ 3584) (hcl : cells + 1 ≤ 600002) (hsl : slots + 6 ≤ 7302232) (hst : lSt1 D tc adC adM cA o b i s H locs ls)
    (kk : ∀ (H : Heap) (locs : List Loc) (ls : Array Slot), lSt2 D tc adC adM cA o b i s H locs ls → W p l e room_1 s m #[Value.ref b] below meth c H locs (cells + 1) (slots + 6) Q (F0 m 871 ls [])) : W p l e room_1 s m #[Value.ref b] below meth c H locs cells slots Q (F0 m 621 ls []) := by
  obtain ⟨hx, hb, hml, hown, hts, hK, hK2, hX, hbl, hTX⟩ := id F
  have hbA : ¬ (fun q : Nat => s.heap.size ≤ q) b := Nat.not_le.mpr hbl
  obtain ⟨fC, gC, fM, gM, w, hl, hP, hD, hS, hC, hM⟩ := hst
  obtain ⟨fc, fr, n, hc, hr⟩ : ∃ (fc fr : mFn) (n : Int), cI n 0 fc fC gC ∧ rI n 8000 fr fM gM := ⟨fC, fM, 1, cI_of hC, rI_of hM⟩
  refine lv_aload_n hx hb dL_law_621 rfl (lv_at hl 1 rfl) ?_
  refine lv_aload_n hx hb dL_law_622 rfl (lv_at hl 0 rfl) ?_
  refine lv_iload hx hb dL_law_623 (lv_at hl 4 rfl) ?_
  refine lv_iconst (v := 1) hx hb dL_law_625 (by decide) ?_
  refine lv_iadd hx hb dL_law_626 ?_
  rw [show nI i + (1 : Int32) = nI (i + 1) from nI_add i 1]
  refine va_sld hx hb hX hbl hbA hS (vp_in_nI (n := i + 1) (N := L) (by omega) (by omega)) dL_law_627 ?_
  rw [nI_clamp (show i + 1 < 2 ^ 31 by omega)]
  refine lv_aload_n hx hb dL_law_628 rfl (lv_at hl 3 rfl) ?_
  obtain ⟨sa, hT⟩ := hTX (117, "no address of the EEPROM", "java/lang/IndexOutOfBoundsException") (by decide +kernel)
  refine lCallH (hh := [(0, 9, 12, 27)]) (bytes := cL_eeprom) (mx := 4) (ret := (some .int)) (as := [.ref (adC 0), .int (xs (i + 1)), .ref o]) (rest := []) (n := 3) (K := fun k f1 g1 w1 => (rg 0 255 ((xs (i + 1))) ∧ k = 0 ∧ ∃ y : Int32, (y = 255) ∧ w1 = vp_updL w 0 y.toInt64) ∨ (¬ rg 0 255 ((xs (i + 1))) ∧ k = 1)) (hlp_eeprom l hls0 D adC tc cA o sa H.size (fun hz => pC_eeprom hC hz (fun y f1 g1 hy => ⟨y, rfl, Or.inl ⟨hz, rfl, y, hy, rfl⟩⟩)) (fun hz => Or.inr ⟨hz, rfl⟩)) hT F (lGoodS goodH lA_H (lA_L0 _ (List.mem_of_getElem? (i := 91) (by decide +kernel))) (lA_L0 _ (List.mem_of_getElem? (i := 92) (by decide +kernel))) (lA_L0 _ (List.mem_of_getElem? (i := 13) (by decide +kernel))) (lA_L0 _ (List.mem_of_getElem? (i := 93) (by decide +kernel))) rfl) rfl rfl rfl (by decide +kernel) ⟨by decide, by decide⟩ rfl hl.1 (Nat.le_of_ble_eq_true rfl) dL_law_629 hcl hsl hP hD hS (fun k fC gC w1 H locs hk hP hD hS => ?_)
  have hk0 := hk
  refine lv_istore (lv' := [(5, .int k), (0, .ref b), (1, .ref (adC 0)), (2, .ref (adM 0)), (3, .ref o), (4, .int (nI i))]) hx hb dL_law_632 hl (by decide) rfl (fun ls hl => ?_)
  refine lv_aload_n hx hb dL_law_634 rfl (lv_at hl 3 rfl) ?_
  refine lv_aload_n hx hb dL_law_635 rfl (lv_at hl 1 rfl) ?_
  refine lv_iload hx hb dL_law_636 (lv_at hl 5 rfl) ?_
  refine lv_iconst (v := 1) hx hb dL_law_638 (by decide) ?_
  refine lv_iadd hx hb dL_law_639 ?_
  rw [show nI i + (1 : Int32) = nI (i + 1) from nI_add i 1]
  refine va_sld hx hb hX hbl hbA hS (vp_in_nI (n := i + 1) (N := L) (by omega) (by omega)) dL_law_640 ?_
  rw [nI_clamp (show i + 1 < 2 ^ 31 by omega)]
  refine lCallM (bytes := cX9_eeprom) (mx := 2) (ret := (some .int)) (rm := rmX9_eeprom) (av := [.inl (xs (i + 1))]) (rest := []) (n := 1) (K := fun r f1 g1 => ∃ y, r = some (.inl y) ∧ (rg 0 255 (xs (i + 1)) → (y = 255) ∧ f1 0 = 0) ∧ (¬ rg 0 255 (xs (i + 1)) → f1 0 = 1)) (metX9_eeprom l D adM tc) (pM_eeprom hM (fun y f1 g1 ha hb => ⟨y, rfl, ha, hb⟩)) F (lGoodV goodM lA_M (lA_L0 _ (List.mem_of_getElem? (i := 94) (by decide +kernel))) (lA_L0 _ (List.mem_of_getElem? (i := 95) (by decide +kernel))) (lA_L0 _ (List.mem_of_getElem? (i := 96) (by decide +kernel))) (lA_L0 _ (List.mem_of_getElem? (i := 5) (by decide +kernel))) (lA_L0 _ (List.mem_of_getElem? (i := 97) (by decide +kernel))) rfl) rfl rfl rfl (by decide +kernel) ⟨by decide, by decide⟩ rfl hl.1 (Nat.le_of_ble_eq_true rfl) dL_law_641 hcl hsl hP hD hS (fun r fM gM H locs hk hP hD hS => ?_)
  obtain ⟨y, rfl, hya, hyb⟩ := hk
  have hTh : fM 0 = k := by
    rcases hk0 with ⟨hz, rfl, -⟩ | ⟨hz, rfl⟩
    · exact (hya hz).2
    · exact hyb hz
  have hW : k = 0 → w1 (0 : Int32).toNatClampNeg = y.toInt64 := by
    intro z9
    rcases hk0 with ⟨hz, -, y2, hy2, rfl⟩ | ⟨hz, e⟩
    · rw [show y = y2 from (hya hz).1.trans hy2.symm, show (0 : Int32).toNatClampNeg = 0 from by decide]; simp [vp_updL]
    · exact absurd (e.symm.trans z9) (by decide)
  refine lv_istore (lv' := [(6, .int y), (5, .int k), (0, .ref b), (1, .ref (adC 0)), (2, .ref (adM 0)), (3, .ref o), (4, .int (nI i))]) hx hb dL_law_644 hl (by decide) rfl (fun ls hl => ?_)
  refine lv_aload_n hx hb dL_law_646 rfl (lv_at hl 4 rfl) ?_
  refine lCallM (bytes := cX9_thrown) (mx := 1) (ret := (some .int)) (rm := rmX9_thrown) (av := []) (rest := []) (n := 0) (K := fun r f1 g1 => r = some (.inl (fM 0)) ∧ f1 = fM ∧ g1 = gM) (metX9_thrown l D adM tc) (sfX9_thrown fM gM _ ⟨rfl, rfl, rfl⟩) F (lGoodV goodM lA_M (lA_L0 _ (List.mem_of_getElem? (i := 29) (by decide +kernel))) (lA_L0 _ (List.mem_of_getElem? (i := 30) (by decide +kernel))) (lA_L0 _ (List.mem_of_getElem? (i := 31) (by decide +kernel))) (lA_L0 _ (List.mem_of_getElem? (i := 5) (by decide +kernel))) (lA_L0 _ (List.mem_of_getElem? (i := 32) (by decide +kernel))) rfl) rfl rfl rfl (by decide +kernel) ⟨by decide, by decide⟩ rfl hl.1 (Nat.le_of_ble_eq_true rfl) dL_law_647 hcl hsl hP hD hS (fun r f1 g1 H locs hk hP hD hS => ?_)
  obtain ⟨hr9, hf9, hg9⟩ := hk
  rw [hf9, hg9] at hP hD
  subst hr9
  refine lv_iload hx hb dL_law_650 (lv_at hl 1 rfl) ?_
  refine lv_icmp_eq (tgt := 657) hx hb dL_law_652 (by decide) (fun _ => ?_) (fun z => absurd hTh z)
  refine lv_iload hx hb dL_law_657 (lv_at hl 1 rfl) ?_
  refine lv_if_ne (tgt := 674) hx hb dL_law_659 (by decide) (fun zk => ?_) (fun zk => ?_)
  · refine lv_goto (tgt := 871) hx hb dL_law_674 (by decide) ?_
    exact kk H locs ls ⟨fC, gC, fM, gM, w1, lv_sub hl [2, 3, 4, 5, 6] rfl, hP, hD, hS⟩
  · refine lv_aload_n hx hb dL_law_662 rfl (lv_at hl 5 rfl) ?_
    refine lv_iconst (v := 0) hx hb dL_law_663 (by decide) ?_
    refine va_lald hx hb hK2 hP ((mW adC tc shC fC gC).length + 0) 0 (cA := cA) (n := 1) (f := w1) (by unfold lwW; exact vApp1 (vApp2 (j := 0) rfl)) rfl (i := 0) (vp_in_nI (n := 0) (N := 1) (by decide) (by decide)) dL_law_664 ?_
    refine lv_iload hx hb dL_law_665 (lv_at hl 0 rfl) ?_
    refine lv_i2l hx hb dL_law_667 rfl ?_
    refine W.lcmp hx hb dL_law_668 ?_
    rw [hW zk, lg_self]
    refine lv_if_eq (tgt := 674) hx hb dL_law_669 (by decide) (fun _ => ?_) (fun z => absurd rfl z)
    refine lv_goto (tgt := 871) hx hb dL_law_674 (by decide) ?_
    exact kk H locs ls ⟨fC, gC, fM, gM, w1, lv_sub hl [2, 3, 4, 5, 6] rfl, hP, hD, hS⟩
set_option maxHeartbeats 4000000 in
set_option maxRecDepth 100000 in
theorem case_11 {p : Program} {l : Launch} {e : Env} {s : State} {m : MethodId} {below : List Frame} {meth : Method} {c : Code} {H : Heap} {locs : List Loc} {cells slots : Nat} {Q : State → Prop} {D : va_G} {tc : Nat → ClassId} {cA : ClassId} {adC adM : Nat → Nat} {o b L i : Nat} {xs : Nat → Int32} {ls : Array Slot} (hls0 : l.stackTraces = false) (F : lFix p s m b c L xs D tc cA) (hi : i + 7 ≤ L) (hL : L ≤ 3584) (hcl : cells + 1 ≤ 600002) (hsl : slots + 6 ≤ 7302232) (hst : lSt1 D tc adC adM cA o b i s H locs ls)
    (kk : ∀ (H : Heap) (locs : List Loc) (ls : Array Slot), lSt2 D tc adC adM cA o b i s H locs ls → W p l e room_1 s m #[Value.ref b] below meth c H locs (cells + 1) (slots + 6) Q (F0 m 871 ls [])) : W p l e room_1 s m #[Value.ref b] below meth c H locs cells slots Q (F0 m 677 ls []) := by
  obtain ⟨hx, hb, hml, hown, hts, hK, hK2, hX, hbl, hTX⟩ := id F
  have hbA : ¬ (fun q : Nat => s.heap.size ≤ q) b := Nat.not_le.mpr hbl
  obtain ⟨fC, gC, fM, gM, w, hl, hP, hD, hS, hC, hM⟩ := hst
  obtain ⟨fc, fr, n, hc, hr⟩ : ∃ (fc fr : mFn) (n : Int), cI n 0 fc fC gC ∧ rI n 8000 fr fM gM := ⟨fC, fM, 1, cI_of hC, rI_of hM⟩
  refine lv_aload_n hx hb dL_law_677 rfl (lv_at hl 1 rfl) ?_
  refine lv_aload_n hx hb dL_law_678 rfl (lv_at hl 0 rfl) ?_
  refine lv_iload hx hb dL_law_679 (lv_at hl 4 rfl) ?_
  refine lv_iconst (v := 1) hx hb dL_law_681 (by decide) ?_
  refine lv_iadd hx hb dL_law_682 ?_
  rw [show nI i + (1 : Int32) = nI (i + 1) from nI_add i 1]
  refine va_sld hx hb hX hbl hbA hS (vp_in_nI (n := i + 1) (N := L) (by omega) (by omega)) dL_law_683 ?_
  rw [nI_clamp (show i + 1 < 2 ^ 31 by omega)]
  refine lCallC (bytes := cX8_pins) (mx := 3) (ret := (some .int)) (rm := rmX8_pins) (av := [.inl (xs (i + 1))]) (rest := []) (n := 1) (K := fun r f1 g1 => r = some (.inl 0) ∧ True) (metX8_pins l D adC tc) (pC_pins hC (fun f1 g1 => ⟨rfl, trivial⟩)) F (lGoodV goodC lA_C (lA_L0 _ (List.mem_of_getElem? (i := 98) (by decide +kernel))) (lA_L0 _ (List.mem_of_getElem? (i := 99) (by decide +kernel))) (lA_L0 _ (List.mem_of_getElem? (i := 100) (by decide +kernel))) (lA_L0 _ (List.mem_of_getElem? (i := 2) (by decide +kernel))) (lA_L0 _ (List.mem_of_getElem? (i := 101) (by decide +kernel))) rfl) rfl rfl rfl (by decide +kernel) ⟨by decide, by decide⟩ rfl hl.1 (Nat.le_of_ble_eq_true rfl) dL_law_684 (Nat.le_of_succ_le hcl) (Nat.le_trans (Nat.le_add_right _ 6) hsl) hP hD hS (fun r fC gC H locs hk hP hD hS => ?_)
  obtain ⟨rfl, -⟩ := hk
  refine lv_aload_n hx hb dL_law_687 rfl (lv_at hl 2 rfl) ?_
  refine lv_aload_n hx hb dL_law_688 rfl (lv_at hl 0 rfl) ?_
  refine lv_iload hx hb dL_law_689 (lv_at hl 4 rfl) ?_
  refine lv_iconst (v := 1) hx hb dL_law_691 (by decide) ?_
  refine lv_iadd hx hb dL_law_692 ?_
  rw [show nI i + (1 : Int32) = nI (i + 1) from nI_add i 1]
  refine va_sld hx hb hX hbl hbA hS (vp_in_nI (n := i + 1) (N := L) (by omega) (by omega)) dL_law_693 ?_
  rw [nI_clamp (show i + 1 < 2 ^ 31 by omega)]
  refine lCallM (bytes := cX9_pins) (mx := 3) (ret := (some .int)) (rm := rmX9_pins) (av := [.inl (xs (i + 1))]) (rest := [.int 0]) (n := 1) (K := fun r f1 g1 => r = some (.inl 0) ∧ True) (metX9_pins l D adM tc) (pM_pins hM (fun f1 g1 => ⟨rfl, trivial⟩)) F (lGoodV goodM lA_M (lA_L0 _ (List.mem_of_getElem? (i := 102) (by decide +kernel))) (lA_L0 _ (List.mem_of_getElem? (i := 103) (by decide +kernel))) (lA_L0 _ (List.mem_of_getElem? (i := 104) (by decide +kernel))) (lA_L0 _ (List.mem_of_getElem? (i := 5) (by decide +kernel))) (lA_L0 _ (List.mem_of_getElem? (i := 105) (by decide +kernel))) rfl) rfl rfl rfl (by decide +kernel) ⟨by decide, by decide⟩ rfl hl.1 (Nat.le_of_ble_eq_true rfl) dL_law_694 (Nat.le_of_succ_le hcl) (Nat.le_trans (Nat.le_add_right _ 6) hsl) hP hD hS (fun r fM gM H locs hk hP hD hS => ?_)
  obtain ⟨rfl, -⟩ := hk
  refine lv_icmp_eq (tgt := 871) hx hb dL_law_697 (by decide) (fun _ => ?_) (fun z => absurd rfl z)
  refine W.widen (k := cells + 1) (n := slots + 6) (by omega) (by omega) ?_
  exact kk H locs ls ⟨fC, gC, fM, gM, w, lv_sub hl [0, 1, 2, 3, 4] rfl, hP, hD, hS⟩
set_option maxHeartbeats 4000000 in
set_option maxRecDepth 100000 in
theorem case_12 {p : Program} {l : Launch} {e : Env} {s : State} {m : MethodId} {below : List Frame} {meth : Method} {c : Code} {H : Heap} {locs : List Loc} {cells slots : Nat} {Q : State → Prop} {D : va_G} {tc : Nat → ClassId} {cA : ClassId} {adC adM : Nat → Nat} {o b L i : Nat} {xs : Nat → Int32} {ls : Array Slot} (hls0 : l.stackTraces = false) (F : lFix p s m b c L xs D tc cA) (hi : i + 7 ≤ L) (hL : L ≤ 3584) (hcl : cells + 1 ≤ 600002) (hsl : slots + 6 ≤ 7302232) (hst : lSt1 D tc adC adM cA o b i s H locs ls)
    (kk : ∀ (H : Heap) (locs : List Loc) (ls : Array Slot), lSt2 D tc adC adM cA o b i s H locs ls → W p l e room_1 s m #[Value.ref b] below meth c H locs (cells + 1) (slots + 6) Q (F0 m 871 ls [])) : W p l e room_1 s m #[Value.ref b] below meth c H locs cells slots Q (F0 m 702 ls []) := by
  obtain ⟨hx, hb, hml, hown, hts, hK, hK2, hX, hbl, hTX⟩ := id F
  have hbA : ¬ (fun q : Nat => s.heap.size ≤ q) b := Nat.not_le.mpr hbl
  obtain ⟨fC, gC, fM, gM, w, hl, hP, hD, hS, hC, hM⟩ := hst
  obtain ⟨fc, fr, n, hc, hr⟩ : ∃ (fc fr : mFn) (n : Int), cI n 0 fc fC gC ∧ rI n 8000 fr fM gM := ⟨fC, fM, 1, cI_of hC, rI_of hM⟩
  refine lv_aload_n hx hb dL_law_702 rfl (lv_at hl 1 rfl) ?_
  refine lv_aload_n hx hb dL_law_703 rfl (lv_at hl 0 rfl) ?_
  refine lv_iload hx hb dL_law_704 (lv_at hl 4 rfl) ?_
  refine lv_iconst (v := 1) hx hb dL_law_706 (by decide) ?_
  refine lv_iadd hx hb dL_law_707 ?_
  rw [show nI i + (1 : Int32) = nI (i + 1) from nI_add i 1]
  refine va_sld hx hb hX hbl hbA hS (vp_in_nI (n := i + 1) (N := L) (by omega) (by omega)) dL_law_708 ?_
  rw [nI_clamp (show i + 1 < 2 ^ 31 by omega)]
  refine lCallC (bytes := cX8_fuses) (mx := 4) (ret := (some .int)) (rm := rmX8_fuses) (av := [.inl (xs (i + 1))]) (rest := []) (n := 1) (K := fun r f1 g1 => r = some (.inl 31) ∧ True) (metX8_fuses l D adC tc) (pC_fuses hC (fun f1 g1 => ⟨rfl, trivial⟩)) F (lGoodV goodC lA_C (lA_L0 _ (List.mem_of_getElem? (i := 106) (by decide +kernel))) (lA_L0 _ (List.mem_of_getElem? (i := 107) (by decide +kernel))) (lA_L0 _ (List.mem_of_getElem? (i := 108) (by decide +kernel))) (lA_L0 _ (List.mem_of_getElem? (i := 2) (by decide +kernel))) (lA_L0 _ (List.mem_of_getElem? (i := 109) (by decide +kernel))) rfl) rfl rfl rfl (by decide +kernel) ⟨by decide, by decide⟩ rfl hl.1 (Nat.le_of_ble_eq_true rfl) dL_law_709 (Nat.le_of_succ_le hcl) (Nat.le_trans (Nat.le_add_right _ 6) hsl) hP hD hS (fun r fC gC H locs hk hP hD hS => ?_)
  obtain ⟨rfl, -⟩ := hk
  refine lv_aload_n hx hb dL_law_712 rfl (lv_at hl 2 rfl) ?_
  refine lv_aload_n hx hb dL_law_713 rfl (lv_at hl 0 rfl) ?_
  refine lv_iload hx hb dL_law_714 (lv_at hl 4 rfl) ?_
  refine lv_iconst (v := 1) hx hb dL_law_716 (by decide) ?_
  refine lv_iadd hx hb dL_law_717 ?_
  rw [show nI i + (1 : Int32) = nI (i + 1) from nI_add i 1]
  refine va_sld hx hb hX hbl hbA hS (vp_in_nI (n := i + 1) (N := L) (by omega) (by omega)) dL_law_718 ?_
  rw [nI_clamp (show i + 1 < 2 ^ 31 by omega)]
  refine lCallM (bytes := cX9_fuses) (mx := 3) (ret := (some .int)) (rm := rmX9_fuses) (av := [.inl (xs (i + 1))]) (rest := [.int 31]) (n := 1) (K := fun r f1 g1 => r = some (.inl 31) ∧ True) (metX9_fuses l D adM tc) (pM_fuses hM (fun f1 g1 => ⟨rfl, trivial⟩)) F (lGoodV goodM lA_M (lA_L0 _ (List.mem_of_getElem? (i := 110) (by decide +kernel))) (lA_L0 _ (List.mem_of_getElem? (i := 111) (by decide +kernel))) (lA_L0 _ (List.mem_of_getElem? (i := 112) (by decide +kernel))) (lA_L0 _ (List.mem_of_getElem? (i := 5) (by decide +kernel))) (lA_L0 _ (List.mem_of_getElem? (i := 113) (by decide +kernel))) rfl) rfl rfl rfl (by decide +kernel) ⟨by decide, by decide⟩ rfl hl.1 (Nat.le_of_ble_eq_true rfl) dL_law_719 (Nat.le_of_succ_le hcl) (Nat.le_trans (Nat.le_add_right _ 6) hsl) hP hD hS (fun r fM gM H locs hk hP hD hS => ?_)
  obtain ⟨rfl, -⟩ := hk
  refine lv_icmp_eq (tgt := 871) hx hb dL_law_722 (by decide) (fun _ => ?_) (fun z => absurd rfl z)
  refine W.widen (k := cells + 1) (n := slots + 6) (by omega) (by omega) ?_
  exact kk H locs ls ⟨fC, gC, fM, gM, w, lv_sub hl [0, 1, 2, 3, 4] rfl, hP, hD, hS⟩
set_option maxHeartbeats 4000000 in
set_option maxRecDepth 100000 in
theorem case_13 {p : Program} {l : Launch} {e : Env} {s : State} {m : MethodId} {below : List Frame} {meth : Method} {c : Code} {H : Heap} {locs : List Loc} {cells slots : Nat} {Q : State → Prop} {D : va_G} {tc : Nat → ClassId} {cA : ClassId} {adC adM : Nat → Nat} {o b L i : Nat} {xs : Nat → Int32} {ls : Array Slot} (hls0 : l.stackTraces = false) (F : lFix p s m b c L xs D tc cA) (hi : i + 7 ≤ L) (hL : L ≤ 3584) (hcl : cells + 1 ≤ 600002) (hsl : slots + 6 ≤ 7302232) (hst : lSt1 D tc adC adM cA o b i s H locs ls)
    (kk : ∀ (H : Heap) (locs : List Loc) (ls : Array Slot), lSt2 D tc adC adM cA o b i s H locs ls → W p l e room_1 s m #[Value.ref b] below meth c H locs (cells + 1) (slots + 6) Q (F0 m 871 ls [])) : W p l e room_1 s m #[Value.ref b] below meth c H locs cells slots Q (F0 m 727 ls []) := by
  obtain ⟨hx, hb, hml, hown, hts, hK, hK2, hX, hbl, hTX⟩ := id F
  have hbA : ¬ (fun q : Nat => s.heap.size ≤ q) b := Nat.not_le.mpr hbl
  obtain ⟨fC, gC, fM, gM, w, hl, hP, hD, hS, hC, hM⟩ := hst
  obtain ⟨fc, fr, n, hc, hr⟩ : ∃ (fc fr : mFn) (n : Int), cI n 0 fc fC gC ∧ rI n 8000 fr fM gM := ⟨fC, fM, 1, cI_of hC, rI_of hM⟩
  refine lv_aload_n hx hb dL_law_727 rfl (lv_at hl 1 rfl) ?_
  refine lv_aload_n hx hb dL_law_728 rfl (lv_at hl 0 rfl) ?_
  refine lv_iload hx hb dL_law_729 (lv_at hl 4 rfl) ?_
  refine lv_iconst (v := 1) hx hb dL_law_731 (by decide) ?_
  refine lv_iadd hx hb dL_law_732 ?_
  rw [show nI i + (1 : Int32) = nI (i + 1) from nI_add i 1]
  refine va_sld hx hb hX hbl hbA hS (vp_in_nI (n := i + 1) (N := L) (by omega) (by omega)) dL_law_733 ?_
  rw [nI_clamp (show i + 1 < 2 ^ 31 by omega)]
  obtain ⟨sa, hT⟩ := hTX (76, "no address of FLASH", "java/lang/IndexOutOfBoundsException") (by decide +kernel)
  refine lCallH (hh := [(0, 5, 8, 27)]) (bytes := cL_start) (mx := 3) (ret := (some .int)) (as := [.ref (adC 0), .int (xs (i + 1))]) (rest := []) (n := 2) (K := fun k f1 g1 w1 => cI n 0 fc f1 g1 ∧ ((rg 0 2047 ((xs (i + 1))) ∧ k = 0) ∨ (¬ rg 0 2047 ((xs (i + 1))) ∧ k = 1))) (hlp_start l hls0 D adC tc cA o sa H.size (fun hz => sfX8_start n 0 fc fC gC _ _ hz hc (fun f1 g1 h => ⟨rfl, h, Or.inl ⟨hz, rfl⟩⟩)) (fun hz => ⟨hc, Or.inr ⟨hz, rfl⟩⟩)) hT F (lGoodS goodH lA_H (lA_L0 _ (List.mem_of_getElem? (i := 114) (by decide +kernel))) (lA_L0 _ (List.mem_of_getElem? (i := 115) (by decide +kernel))) (lA_L0 _ (List.mem_of_getElem? (i := 13) (by decide +kernel))) (lA_L0 _ (List.mem_of_getElem? (i := 116) (by decide +kernel))) rfl) rfl rfl rfl (by decide +kernel) ⟨by decide, by decide⟩ rfl hl.1 (Nat.le_of_ble_eq_true rfl) dL_law_734 hcl hsl hP hD hS (fun k fC gC w1 H locs hk hP hD hS => ?_)
  obtain ⟨hc, hk⟩ := hk
  have hk0 := hk
  refine lv_istore (lv' := [(5, .int k), (0, .ref b), (1, .ref (adC 0)), (2, .ref (adM 0)), (3, .ref o), (4, .int (nI i))]) hx hb dL_law_737 hl (by decide) rfl (fun ls hl => ?_)
  refine lv_aload_n hx hb dL_law_739 rfl (lv_at hl 3 rfl) ?_
  refine lv_aload_n hx hb dL_law_740 rfl (lv_at hl 1 rfl) ?_
  refine lv_iload hx hb dL_law_741 (lv_at hl 5 rfl) ?_
  refine lv_iconst (v := 1) hx hb dL_law_743 (by decide) ?_
  refine lv_iadd hx hb dL_law_744 ?_
  rw [show nI i + (1 : Int32) = nI (i + 1) from nI_add i 1]
  refine va_sld hx hb hX hbl hbA hS (vp_in_nI (n := i + 1) (N := L) (by omega) (by omega)) dL_law_745 ?_
  rw [nI_clamp (show i + 1 < 2 ^ 31 by omega)]
  refine lCallM (bytes := cX9_start) (mx := 2) (ret := none) (rm := rmX9_start) (av := [.inl (xs (i + 1))]) (rest := []) (n := 1) (K := fun r f1 g1 => r = none ∧ (rg 0 2047 (xs (i + 1)) → f1 0 = 0) ∧ (¬ rg 0 2047 (xs (i + 1)) → f1 0 = 1) ∧ rI n 8000 fr f1 g1) (metX9_start l D adM tc) (sfX9_start _ 8000 fr fM gM _ _ hr (fun f1 g1 ha hb h => ⟨rfl, ha, hb, h⟩)) F (lGoodV goodM lA_M (lA_L0 _ (List.mem_of_getElem? (i := 117) (by decide +kernel))) (lA_L0 _ (List.mem_of_getElem? (i := 118) (by decide +kernel))) (lA_L0 _ (List.mem_of_getElem? (i := 119) (by decide +kernel))) (lA_L0 _ (List.mem_of_getElem? (i := 5) (by decide +kernel))) (lA_L0 _ (List.mem_of_getElem? (i := 120) (by decide +kernel))) rfl) rfl rfl rfl (by decide +kernel) ⟨by decide, by decide⟩ rfl hl.1 (Nat.le_of_ble_eq_true rfl) dL_law_746 hcl hsl hP hD hS (fun r fM gM H locs hk hP hD hS => ?_)
  obtain ⟨rfl, hya, hyb, hr⟩ := hk
  have hTh : fM 0 = k := by
    rcases hk0 with ⟨hz, rfl⟩ | ⟨hz, rfl⟩
    · exact hya hz
    · exact hyb hz
  refine lv_aload_n hx hb dL_law_749 rfl (lv_at hl 3 rfl) ?_
  refine lCallM (bytes := cX9_thrown) (mx := 1) (ret := (some .int)) (rm := rmX9_thrown) (av := []) (rest := []) (n := 0) (K := fun r f1 g1 => r = some (.inl (fM 0)) ∧ f1 = fM ∧ g1 = gM) (metX9_thrown l D adM tc) (sfX9_thrown fM gM _ ⟨rfl, rfl, rfl⟩) F (lGoodV goodM lA_M (lA_L0 _ (List.mem_of_getElem? (i := 29) (by decide +kernel))) (lA_L0 _ (List.mem_of_getElem? (i := 30) (by decide +kernel))) (lA_L0 _ (List.mem_of_getElem? (i := 31) (by decide +kernel))) (lA_L0 _ (List.mem_of_getElem? (i := 5) (by decide +kernel))) (lA_L0 _ (List.mem_of_getElem? (i := 32) (by decide +kernel))) rfl) rfl rfl rfl (by decide +kernel) ⟨by decide, by decide⟩ rfl hl.1 (Nat.le_of_ble_eq_true rfl) dL_law_750 hcl hsl hP hD hS (fun r f1 g1 H locs hk hP hD hS => ?_)
  obtain ⟨hr9, hf9, hg9⟩ := hk
  rw [hf9, hg9] at hP hD
  subst hr9
  refine lv_iload hx hb dL_law_753 (lv_at hl 0 rfl) ?_
  refine lv_icmp_eq (tgt := 760) hx hb dL_law_755 (by decide) (fun _ => ?_) (fun z => absurd hTh z)
  refine lv_goto (tgt := 871) hx hb dL_law_760 (by decide) ?_
  exact kk H locs ls ⟨fC, gC, fM, gM, w1, lv_sub hl [1, 2, 3, 4, 5] rfl, hP, hD, hS⟩
set_option maxHeartbeats 4000000 in
set_option maxRecDepth 100000 in
theorem case_14 {p : Program} {l : Launch} {e : Env} {s : State} {m : MethodId} {below : List Frame} {meth : Method} {c : Code} {H : Heap} {locs : List Loc} {cells slots : Nat} {Q : State → Prop} {D : va_G} {tc : Nat → ClassId} {cA : ClassId} {adC adM : Nat → Nat} {o b L i : Nat} {xs : Nat → Int32} {ls : Array Slot} (hls0 : l.stackTraces = false) (F : lFix p s m b c L xs D tc cA) (hi : i + 7 ≤ L) (hL : L ≤ 3584) (hcl : cells + 1 ≤ 600002) (hsl : slots + 6 ≤ 7302232) (hst : lSt1 D tc adC adM cA o b i s H locs ls)
    (kk : ∀ (H : Heap) (locs : List Loc) (ls : Array Slot), lSt2 D tc adC adM cA o b i s H locs ls → W p l e room_1 s m #[Value.ref b] below meth c H locs (cells + 1) (slots + 6) Q (F0 m 871 ls [])) : W p l e room_1 s m #[Value.ref b] below meth c H locs cells slots Q (F0 m 763 ls []) := by
  obtain ⟨hx, hb, hml, hown, hts, hK, hK2, hX, hbl, hTX⟩ := id F
  have hbA : ¬ (fun q : Nat => s.heap.size ≤ q) b := Nat.not_le.mpr hbl
  obtain ⟨fC, gC, fM, gM, w, hl, hP, hD, hS, hC, hM⟩ := hst
  obtain ⟨fc, fr, n, hc, hr⟩ : ∃ (fc fr : mFn) (n : Int), cI n 0 fc fC gC ∧ rI n 8000 fr fM gM := ⟨fC, fM, 1, cI_of hC, rI_of hM⟩
  refine lv_aload_n hx hb dL_law_763 rfl (lv_at hl 1 rfl) ?_
  refine lCallC (bytes := cX8_reset) (mx := 1) (ret := none) (rm := rmX8_reset) (av := []) (rest := []) (n := 0) (K := fun r f1 g1 => r = none ∧ True) (metX8_reset l D adC tc) (pC_reset hC (fun f1 g1 => ⟨rfl, trivial⟩)) F (lGoodV goodC lA_C (lA_L0 _ (List.mem_of_getElem? (i := 121) (by decide +kernel))) (lA_L0 _ (List.mem_of_getElem? (i := 122) (by decide +kernel))) (lA_L0 _ (List.mem_of_getElem? (i := 123) (by decide +kernel))) (lA_L0 _ (List.mem_of_getElem? (i := 2) (by decide +kernel))) (lA_L0 _ (List.mem_of_getElem? (i := 124) (by decide +kernel))) rfl) rfl rfl rfl (by decide +kernel) ⟨by decide, by decide⟩ rfl hl.1 (Nat.le_of_ble_eq_true rfl) dL_law_764 (Nat.le_of_succ_le hcl) (Nat.le_trans (Nat.le_add_right _ 6) hsl) hP hD hS (fun r fC gC H locs hk hP hD hS => ?_)
  obtain ⟨rfl, -⟩ := hk
  refine lv_aload_n hx hb dL_law_767 rfl (lv_at hl 2 rfl) ?_
  refine lCallM (bytes := cX9_reset) (mx := 1) (ret := none) (rm := rmX9_reset) (av := []) (rest := []) (n := 0) (K := fun r f1 g1 => r = none ∧ True) (metX9_reset l D adM tc) (pM_reset hM (fun f1 g1 => ⟨rfl, trivial⟩)) F (lGoodV goodM lA_M (lA_L0 _ (List.mem_of_getElem? (i := 125) (by decide +kernel))) (lA_L0 _ (List.mem_of_getElem? (i := 126) (by decide +kernel))) (lA_L0 _ (List.mem_of_getElem? (i := 127) (by decide +kernel))) (lA_L0 _ (List.mem_of_getElem? (i := 5) (by decide +kernel))) (lA_L0 _ (List.mem_of_getElem? (i := 128) (by decide +kernel))) rfl) rfl rfl rfl (by decide +kernel) ⟨by decide, by decide⟩ rfl hl.1 (Nat.le_of_ble_eq_true rfl) dL_law_768 (Nat.le_of_succ_le hcl) (Nat.le_trans (Nat.le_add_right _ 6) hsl) hP hD hS (fun r fM gM H locs hk hP hD hS => ?_)
  obtain ⟨rfl, -⟩ := hk
  refine lv_goto (tgt := 871) hx hb dL_law_771 (by decide) ?_
  refine W.widen (k := cells + 1) (n := slots + 6) (by omega) (by omega) ?_
  exact kk H locs ls ⟨fC, gC, fM, gM, w, lv_sub hl [0, 1, 2, 3, 4] rfl, hP, hD, hS⟩
set_option maxHeartbeats 4000000 in
set_option maxRecDepth 100000 in
theorem case_15 {p : Program} {l : Launch} {e : Env} {s : State} {m : MethodId} {below : List Frame} {meth : Method} {c : Code} {H : Heap} {locs : List Loc} {cells slots : Nat} {Q : State → Prop} {D : va_G} {tc : Nat → ClassId} {cA : ClassId} {adC adM : Nat → Nat} {o b L i : Nat} {xs : Nat → Int32} {ls : Array Slot} (hls0 : l.stackTraces = false) (F : lFix p s m b c L xs D tc cA) (hi : i + 7 ≤ L) (hL : L ≤ 3584) (hcl : cells + 1 ≤ 600002) (hsl : slots + 6 ≤ 7302232) (hst : lSt1 D tc adC adM cA o b i s H locs ls)
    (kk : ∀ (H : Heap) (locs : List Loc) (ls : Array Slot), lSt2 D tc adC adM cA o b i s H locs ls → W p l e room_1 s m #[Value.ref b] below meth c H locs (cells + 1) (slots + 6) Q (F0 m 871 ls [])) : W p l e room_1 s m #[Value.ref b] below meth c H locs cells slots Q (F0 m 774 ls []) := by
  obtain ⟨hx, hb, hml, hown, hts, hK, hK2, hX, hbl, hTX⟩ := id F
  have hbA : ¬ (fun q : Nat => s.heap.size ≤ q) b := Nat.not_le.mpr hbl
  obtain ⟨fC, gC, fM, gM, w, hl, hP, hD, hS, hC, hM⟩ := hst
  obtain ⟨fc, fr, n, hc, hr⟩ : ∃ (fc fr : mFn) (n : Int), cI n 0 fc fC gC ∧ rI n 8000 fr fM gM := ⟨fC, fM, 1, cI_of hC, rI_of hM⟩
  refine lv_aload_n hx hb dL_law_774 rfl (lv_at hl 1 rfl) ?_
  refine lv_aload_n hx hb dL_law_775 rfl (lv_at hl 0 rfl) ?_
  refine lv_iload hx hb dL_law_776 (lv_at hl 4 rfl) ?_
  refine lv_iconst (v := 1) hx hb dL_law_778 (by decide) ?_
  refine lv_iadd hx hb dL_law_779 ?_
  rw [show nI i + (1 : Int32) = nI (i + 1) from nI_add i 1]
  refine va_sld hx hb hX hbl hbA hS (vp_in_nI (n := i + 1) (N := L) (by omega) (by omega)) dL_law_780 ?_
  rw [nI_clamp (show i + 1 < 2 ^ 31 by omega)]
  refine lv_if_eq (tgt := 788) hx hb dL_law_781 (by decide) (fun z781 => ?_) (fun z781 => ?_)
  · refine lv_iconst (v := 0) hx hb dL_law_788 (by decide) ?_
    refine lCallC (bytes := cX8_power) (mx := 3) (ret := (some .boolean)) (rm := rmX8_power) (av := [.inl 0]) (rest := []) (n := 1) (K := fun r f1 g1 => r = some (.inl 1) ∧ True) (metX8_power l D adC tc) (pC_power0 hC (fun f1 g1 => ⟨rfl, trivial⟩)) F (lGoodV goodC lA_C (lA_L0 _ (List.mem_of_getElem? (i := 129) (by decide +kernel))) (lA_L0 _ (List.mem_of_getElem? (i := 130) (by decide +kernel))) (lA_L0 _ (List.mem_of_getElem? (i := 131) (by decide +kernel))) (lA_L0 _ (List.mem_of_getElem? (i := 2) (by decide +kernel))) (lA_L0 _ (List.mem_of_getElem? (i := 132) (by decide +kernel))) rfl) rfl rfl rfl (by decide +kernel) ⟨by decide, by decide⟩ rfl hl.1 (Nat.le_of_ble_eq_true rfl) dL_law_789 (Nat.le_of_succ_le hcl) (Nat.le_trans (Nat.le_add_right _ 6) hsl) hP hD hS (fun r fC gC H locs hk hP hD hS => ?_)
    obtain ⟨rfl, -⟩ := hk
    refine lv_aload_n hx hb dL_law_792 rfl (lv_at hl 2 rfl) ?_
    refine lv_aload_n hx hb dL_law_793 rfl (lv_at hl 0 rfl) ?_
    refine lv_iload hx hb dL_law_794 (lv_at hl 4 rfl) ?_
    refine lv_iconst (v := 1) hx hb dL_law_796 (by decide) ?_
    refine lv_iadd hx hb dL_law_797 ?_
    rw [show nI i + (1 : Int32) = nI (i + 1) from nI_add i 1]
    refine va_sld hx hb hX hbl hbA hS (vp_in_nI (n := i + 1) (N := L) (by omega) (by omega)) dL_law_798 ?_
    rw [nI_clamp (show i + 1 < 2 ^ 31 by omega)]
    refine lv_if_eq (tgt := 806) hx hb dL_law_799 (by decide) (fun _ => ?_) (fun z9 => absurd z781 z9)
    refine lv_iconst (v := 0) hx hb dL_law_806 (by decide) ?_
    refine lCallM (bytes := cX9_power) (mx := 4) (ret := (some .boolean)) (rm := rmX9_power) (av := [.inl 0]) (rest := [.int 1]) (n := 1) (K := fun r f1 g1 => r = some (.inl 1) ∧ True) (metX9_power l D adM tc) (pM_power0 hM (fun f1 g1 => ⟨rfl, trivial⟩)) F (lGoodV goodM lA_M (lA_L0 _ (List.mem_of_getElem? (i := 133) (by decide +kernel))) (lA_L0 _ (List.mem_of_getElem? (i := 134) (by decide +kernel))) (lA_L0 _ (List.mem_of_getElem? (i := 135) (by decide +kernel))) (lA_L0 _ (List.mem_of_getElem? (i := 5) (by decide +kernel))) (lA_L0 _ (List.mem_of_getElem? (i := 136) (by decide +kernel))) rfl) rfl rfl rfl (by decide +kernel) ⟨by decide, by decide⟩ rfl hl.1 (Nat.le_of_ble_eq_true rfl) dL_law_807 (Nat.le_of_succ_le hcl) (Nat.le_trans (Nat.le_add_right _ 6) hsl) hP hD hS (fun r fM gM H locs hk hP hD hS => ?_)
    obtain ⟨rfl, -⟩ := hk
    refine lv_icmp_eq (tgt := 871) hx hb dL_law_810 (by decide) (fun _ => ?_) (fun z => absurd rfl z)
    refine W.widen (k := cells + 1) (n := slots + 6) (by omega) (by omega) ?_
    exact kk H locs ls ⟨fC, gC, fM, gM, w, lv_sub hl [0, 1, 2, 3, 4] rfl, hP, hD, hS⟩
  · refine lv_iconst (v := 1) hx hb dL_law_784 (by decide) ?_
    refine lv_goto (tgt := 789) hx hb dL_law_785 (by decide) ?_
    refine lCallC (bytes := cX8_power) (mx := 3) (ret := (some .boolean)) (rm := rmX8_power) (av := [.inl 1]) (rest := []) (n := 1) (K := fun r f1 g1 => r = some (.inl 1) ∧ True) (metX8_power l D adC tc) (pC_power1 hC (fun f1 g1 => ⟨rfl, trivial⟩)) F (lGoodV goodC lA_C (lA_L0 _ (List.mem_of_getElem? (i := 129) (by decide +kernel))) (lA_L0 _ (List.mem_of_getElem? (i := 130) (by decide +kernel))) (lA_L0 _ (List.mem_of_getElem? (i := 131) (by decide +kernel))) (lA_L0 _ (List.mem_of_getElem? (i := 2) (by decide +kernel))) (lA_L0 _ (List.mem_of_getElem? (i := 132) (by decide +kernel))) rfl) rfl rfl rfl (by decide +kernel) ⟨by decide, by decide⟩ rfl hl.1 (Nat.le_of_ble_eq_true rfl) dL_law_789 (Nat.le_of_succ_le hcl) (Nat.le_trans (Nat.le_add_right _ 6) hsl) hP hD hS (fun r fC gC H locs hk hP hD hS => ?_)
    obtain ⟨rfl, -⟩ := hk
    refine lv_aload_n hx hb dL_law_792 rfl (lv_at hl 2 rfl) ?_
    refine lv_aload_n hx hb dL_law_793 rfl (lv_at hl 0 rfl) ?_
    refine lv_iload hx hb dL_law_794 (lv_at hl 4 rfl) ?_
    refine lv_iconst (v := 1) hx hb dL_law_796 (by decide) ?_
    refine lv_iadd hx hb dL_law_797 ?_
    rw [show nI i + (1 : Int32) = nI (i + 1) from nI_add i 1]
    refine va_sld hx hb hX hbl hbA hS (vp_in_nI (n := i + 1) (N := L) (by omega) (by omega)) dL_law_798 ?_
    rw [nI_clamp (show i + 1 < 2 ^ 31 by omega)]
    refine lv_if_eq (tgt := 806) hx hb dL_law_799 (by decide) (fun z9 => absurd z9 z781) (fun _ => ?_)
    refine lv_iconst (v := 1) hx hb dL_law_802 (by decide) ?_
    refine lv_goto (tgt := 807) hx hb dL_law_803 (by decide) ?_
    refine lCallM (bytes := cX9_power) (mx := 4) (ret := (some .boolean)) (rm := rmX9_power) (av := [.inl 1]) (rest := [.int 1]) (n := 1) (K := fun r f1 g1 => r = some (.inl 1) ∧ True) (metX9_power l D adM tc) (pM_power1 hM (fun f1 g1 => ⟨rfl, trivial⟩)) F (lGoodV goodM lA_M (lA_L0 _ (List.mem_of_getElem? (i := 133) (by decide +kernel))) (lA_L0 _ (List.mem_of_getElem? (i := 134) (by decide +kernel))) (lA_L0 _ (List.mem_of_getElem? (i := 135) (by decide +kernel))) (lA_L0 _ (List.mem_of_getElem? (i := 5) (by decide +kernel))) (lA_L0 _ (List.mem_of_getElem? (i := 136) (by decide +kernel))) rfl) rfl rfl rfl (by decide +kernel) ⟨by decide, by decide⟩ rfl hl.1 (Nat.le_of_ble_eq_true rfl) dL_law_807 (Nat.le_of_succ_le hcl) (Nat.le_trans (Nat.le_add_right _ 6) hsl) hP hD hS (fun r fM gM H locs hk hP hD hS => ?_)
    obtain ⟨rfl, -⟩ := hk
    refine lv_icmp_eq (tgt := 871) hx hb dL_law_810 (by decide) (fun _ => ?_) (fun z => absurd rfl z)
    refine W.widen (k := cells + 1) (n := slots + 6) (by omega) (by omega) ?_
    exact kk H locs ls ⟨fC, gC, fM, gM, w, lv_sub hl [0, 1, 2, 3, 4] rfl, hP, hD, hS⟩
set_option maxHeartbeats 4000000 in
set_option maxRecDepth 100000 in
theorem case_16 {p : Program} {l : Launch} {e : Env} {s : State} {m : MethodId} {below : List Frame} {meth : Method} {c : Code} {H : Heap} {locs : List Loc} {cells slots : Nat} {Q : State → Prop} {D : va_G} {tc : Nat → ClassId} {cA : ClassId} {adC adM : Nat → Nat} {o b L i : Nat} {xs : Nat → Int32} {ls : Array Slot} (hls0 : l.stackTraces = false) (F : lFix p s m b c L xs D tc cA) (hi : i + 7 ≤ L) (hL : L ≤ 3584) (hcl : cells + 1 ≤ 600002) (hsl : slots + 6 ≤ 7302232) (hst : lSt1 D tc adC adM cA o b i s H locs ls)
    (kk : ∀ (H : Heap) (locs : List Loc) (ls : Array Slot), lSt2 D tc adC adM cA o b i s H locs ls → W p l e room_1 s m #[Value.ref b] below meth c H locs (cells + 1) (slots + 6) Q (F0 m 871 ls [])) : W p l e room_1 s m #[Value.ref b] below meth c H locs cells slots Q (F0 m 815 ls []) := by
  obtain ⟨hx, hb, hml, hown, hts, hK, hK2, hX, hbl, hTX⟩ := id F
  have hbA : ¬ (fun q : Nat => s.heap.size ≤ q) b := Nat.not_le.mpr hbl
  obtain ⟨fC, gC, fM, gM, w, hl, hP, hD, hS, hC, hM⟩ := hst
  obtain ⟨fc, fr, n, hc, hr⟩ : ∃ (fc fr : mFn) (n : Int), cI n 0 fc fC gC ∧ rI n 8000 fr fM gM := ⟨fC, fM, 1, cI_of hC, rI_of hM⟩
  refine lv_aload_n hx hb dL_law_815 rfl (lv_at hl 1 rfl) ?_
  refine lv_aload_n hx hb dL_law_816 rfl (lv_at hl 0 rfl) ?_
  refine lv_iload hx hb dL_law_817 (lv_at hl 4 rfl) ?_
  refine lv_iconst (v := 1) hx hb dL_law_819 (by decide) ?_
  refine lv_iadd hx hb dL_law_820 ?_
  rw [show nI i + (1 : Int32) = nI (i + 1) from nI_add i 1]
  refine va_sld hx hb hX hbl hbA hS (vp_in_nI (n := i + 1) (N := L) (by omega) (by omega)) dL_law_821 ?_
  rw [nI_clamp (show i + 1 < 2 ^ 31 by omega)]
  refine lv_aload_n hx hb dL_law_822 rfl (lv_at hl 3 rfl) ?_
  obtain ⟨sa, hT⟩ := hTX (207, "nothing is told of that", "java/util/NoSuchElementException") (by decide +kernel)
  refine lCallH (hh := [(0, 9, 12, 21)]) (bytes := cL_about) (mx := 4) (ret := (some .int)) (as := [.ref (adC 0), .int (xs (i + 1)), .ref o]) (rest := []) (n := 3) (K := fun k f1 g1 w1 => (rg 0 21 ((xs (i + 1))) ∧ k = 0 ∧ ∃ y : Int32, (y = nI (aboN ((xs (i + 1))).toNatClampNeg)) ∧ w1 = vp_updL w 0 y.toInt64) ∨ (¬ rg 0 21 ((xs (i + 1))) ∧ k = 1)) (hlp_about l hls0 D adC tc cA o sa H.size (fun hz => pC_about hC hz (fun y f1 g1 hy => ⟨y, rfl, Or.inl ⟨hz, rfl, y, hy, rfl⟩⟩)) (fun hz => Or.inr ⟨hz, rfl⟩)) hT F (lGoodS goodH lA_H (lA_L0 _ (List.mem_of_getElem? (i := 137) (by decide +kernel))) (lA_L0 _ (List.mem_of_getElem? (i := 138) (by decide +kernel))) (lA_L0 _ (List.mem_of_getElem? (i := 13) (by decide +kernel))) (lA_L0 _ (List.mem_of_getElem? (i := 139) (by decide +kernel))) rfl) rfl rfl rfl (by decide +kernel) ⟨by decide, by decide⟩ rfl hl.1 (Nat.le_of_ble_eq_true rfl) dL_law_823 hcl hsl hP hD hS (fun k fC gC w1 H locs hk hP hD hS => ?_)
  have hk0 := hk
  refine lv_istore (lv' := [(5, .int k), (0, .ref b), (1, .ref (adC 0)), (2, .ref (adM 0)), (3, .ref o), (4, .int (nI i))]) hx hb dL_law_826 hl (by decide) rfl (fun ls hl => ?_)
  refine lv_aload_n hx hb dL_law_828 rfl (lv_at hl 3 rfl) ?_
  refine lv_aload_n hx hb dL_law_829 rfl (lv_at hl 1 rfl) ?_
  refine lv_iload hx hb dL_law_830 (lv_at hl 5 rfl) ?_
  refine lv_iconst (v := 1) hx hb dL_law_832 (by decide) ?_
  refine lv_iadd hx hb dL_law_833 ?_
  rw [show nI i + (1 : Int32) = nI (i + 1) from nI_add i 1]
  refine va_sld hx hb hX hbl hbA hS (vp_in_nI (n := i + 1) (N := L) (by omega) (by omega)) dL_law_834 ?_
  rw [nI_clamp (show i + 1 < 2 ^ 31 by omega)]
  refine lCallM (bytes := cX9_about) (mx := 4) (ret := (some .int)) (rm := rmX9_about) (av := [.inl (xs (i + 1))]) (rest := []) (n := 1) (K := fun r f1 g1 => ∃ y, r = some (.inl y) ∧ (rg 0 21 (xs (i + 1)) → (y = nI (aboN ((xs (i + 1))).toNatClampNeg)) ∧ f1 0 = 0) ∧ (¬ rg 0 21 (xs (i + 1)) → f1 0 = 1)) (metX9_about l D adM tc) (pM_about hM (fun y f1 g1 ha hb => ⟨y, rfl, ha, hb⟩)) F (lGoodV goodM lA_M (lA_L0 _ (List.mem_of_getElem? (i := 140) (by decide +kernel))) (lA_L0 _ (List.mem_of_getElem? (i := 141) (by decide +kernel))) (lA_L0 _ (List.mem_of_getElem? (i := 142) (by decide +kernel))) (lA_L0 _ (List.mem_of_getElem? (i := 5) (by decide +kernel))) (lA_L0 _ (List.mem_of_getElem? (i := 143) (by decide +kernel))) rfl) rfl rfl rfl (by decide +kernel) ⟨by decide, by decide⟩ rfl hl.1 (Nat.le_of_ble_eq_true rfl) dL_law_835 hcl hsl hP hD hS (fun r fM gM H locs hk hP hD hS => ?_)
  obtain ⟨y, rfl, hya, hyb⟩ := hk
  have hTh : fM 0 = k := by
    rcases hk0 with ⟨hz, rfl, -⟩ | ⟨hz, rfl⟩
    · exact (hya hz).2
    · exact hyb hz
  have hW : k = 0 → w1 (0 : Int32).toNatClampNeg = y.toInt64 := by
    intro z9
    rcases hk0 with ⟨hz, -, y2, hy2, rfl⟩ | ⟨hz, e⟩
    · rw [show y = y2 from (hya hz).1.trans hy2.symm, show (0 : Int32).toNatClampNeg = 0 from by decide]; simp [vp_updL]
    · exact absurd (e.symm.trans z9) (by decide)
  refine lv_istore (lv' := [(6, .int y), (5, .int k), (0, .ref b), (1, .ref (adC 0)), (2, .ref (adM 0)), (3, .ref o), (4, .int (nI i))]) hx hb dL_law_838 hl (by decide) rfl (fun ls hl => ?_)
  refine lv_aload_n hx hb dL_law_840 rfl (lv_at hl 4 rfl) ?_
  refine lCallM (bytes := cX9_thrown) (mx := 1) (ret := (some .int)) (rm := rmX9_thrown) (av := []) (rest := []) (n := 0) (K := fun r f1 g1 => r = some (.inl (fM 0)) ∧ f1 = fM ∧ g1 = gM) (metX9_thrown l D adM tc) (sfX9_thrown fM gM _ ⟨rfl, rfl, rfl⟩) F (lGoodV goodM lA_M (lA_L0 _ (List.mem_of_getElem? (i := 29) (by decide +kernel))) (lA_L0 _ (List.mem_of_getElem? (i := 30) (by decide +kernel))) (lA_L0 _ (List.mem_of_getElem? (i := 31) (by decide +kernel))) (lA_L0 _ (List.mem_of_getElem? (i := 5) (by decide +kernel))) (lA_L0 _ (List.mem_of_getElem? (i := 32) (by decide +kernel))) rfl) rfl rfl rfl (by decide +kernel) ⟨by decide, by decide⟩ rfl hl.1 (Nat.le_of_ble_eq_true rfl) dL_law_841 hcl hsl hP hD hS (fun r f1 g1 H locs hk hP hD hS => ?_)
  obtain ⟨hr9, hf9, hg9⟩ := hk
  rw [hf9, hg9] at hP hD
  subst hr9
  refine lv_iload hx hb dL_law_844 (lv_at hl 1 rfl) ?_
  refine lv_icmp_eq (tgt := 851) hx hb dL_law_846 (by decide) (fun _ => ?_) (fun z => absurd hTh z)
  refine lv_iload hx hb dL_law_851 (lv_at hl 1 rfl) ?_
  refine lv_if_ne (tgt := 868) hx hb dL_law_853 (by decide) (fun zk => ?_) (fun zk => ?_)
  · refine lv_goto (tgt := 871) hx hb dL_law_868 (by decide) ?_
    exact kk H locs ls ⟨fC, gC, fM, gM, w1, lv_sub hl [2, 3, 4, 5, 6] rfl, hP, hD, hS⟩
  · refine lv_aload_n hx hb dL_law_856 rfl (lv_at hl 5 rfl) ?_
    refine lv_iconst (v := 0) hx hb dL_law_857 (by decide) ?_
    refine va_lald hx hb hK2 hP ((mW adC tc shC fC gC).length + 0) 0 (cA := cA) (n := 1) (f := w1) (by unfold lwW; exact vApp1 (vApp2 (j := 0) rfl)) rfl (i := 0) (vp_in_nI (n := 0) (N := 1) (by decide) (by decide)) dL_law_858 ?_
    refine lv_iload hx hb dL_law_859 (lv_at hl 0 rfl) ?_
    refine lv_i2l hx hb dL_law_861 rfl ?_
    refine W.lcmp hx hb dL_law_862 ?_
    rw [hW zk, lg_self]
    refine lv_if_eq (tgt := 868) hx hb dL_law_863 (by decide) (fun _ => ?_) (fun z => absurd rfl z)
    refine lv_goto (tgt := 871) hx hb dL_law_868 (by decide) ?_
    exact kk H locs ls ⟨fC, gC, fM, gM, w1, lv_sub hl [2, 3, 4, 5, 6] rfl, hP, hD, hS⟩
