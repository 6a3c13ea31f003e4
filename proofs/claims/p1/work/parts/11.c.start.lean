/-! the law's start -/
theorem vPermA {A : Nat → Prop} {W1 W2 W3 : va_W} (h : va_D A (W1 ++ (W2 ++ W3))) {i j : Nat} {q r : Nat × va_E} (hq : W1[i]? = some q) (hr : (W3 ++ W2)[j]? = some r) : q.1 ≠ r.1 := by
  have key : ∀ (k : Nat) (r : Nat × va_E), (W2 ++ W3)[k]? = some r → q.1 ≠ r.1 := fun k r hr => vApart h hq hr
  by_cases hj : j < W3.length
  · rw [List.getElem?_append_left hj] at hr
    exact key _ r (vApp2 hr)
  · rw [List.getElem?_append_right (by omega)] at hr
    exact key _ r (vApp1 hr)
set_option maxHeartbeats 4000000 in
set_option maxRecDepth 100000 in
/-- from the entry to the end -/
theorem whole_start {p : Program} {e : Env} {s : State} {m : MethodId} {below : List Frame} {meth : Method} {c : Code} (l : Launch) (hls0 : l.stackTraces = false) {b L : Nat} {xs : Nat → Int32} (hL : L ≤ 7) (hh : heapFits s = true) (C0 : lw_At p s m meth c b L xs) : W p l e room_1 s m #[Value.ref b] below meth c s.heap [] 0 0 (lw_Z below #[Value.ref b] s) (entryFrame m ([Value.ref b] : List Value).toArray 7) := by
  obtain ⟨hx, hb, hr, hml, hown, hts, hX, hbl, hlocks, hgv⟩ := id C0
  obtain ⟨hs1, hs2, hs3, hs4, hs5⟩ := lNarrow hgv
  obtain ⟨ql, QL, lf, hLd⟩ := lLoader hs1 hs2 hs3 hs4 hs5 hts hh
  obtain ⟨adK, adV, hSc, hSt⟩ := lTexts hs1 hs2 hs3 hs4 hs5 hts
  have hTX := lThrows hs1 hs2 hs3 hs4 hs5 hts
  obtain ⟨D, tc, hK⟩ := lKinds hts
  have hA : ∀ q : Nat, s.heap.size ≤ q → (fun q : Nat => s.heap.size ≤ q) q := fun _ h => h
  have hbA : ¬ (fun q : Nat => s.heap.size ≤ q) b := Nat.not_le.mpr hbl
  have hS : va_S (fun q : Nat => s.heap.size ≤ q) s.heap s.heap [] := va_S.rf
  have hP : va_P D vwCl [] s.heap := fun k q h => by simp at h
  have hD : va_D (fun q : Nat => s.heap.size ≤ q) [] := ⟨fun i j p q h => by simp at h, fun k q h => by simp at h⟩
  have hl := lv_entry ([.ref b]) (n := 7) (Nat.le_of_ble_eq_true rfl)
  rw [lg_entry_eq]
  generalize (lg_sl ([.ref b]) ++ List.replicate (7 - (lg_sl ([.ref b])).length) Slot.unset).toArray = ls at hl ⊢
  have hl : lv_has ls 7 [(0, .ref b)] := hl
  refine va_new (ci := 11) (fs := [.null, .null, .int 0, .int 0, .int 0, .int 0, .int 0]) (C := RX8) (T := TX8) (N := 7) hx hb hts lI_X8 tyX8 tyX8_ok hown (hts (.classLink RL 8 RX8) (lA_L0 _ (List.mem_of_getElem? (i := 0) (by decide +kernel)))) (hts (.instantiable RX8 7) (lA_L0 _ (List.mem_of_getElem? (i := 1) (by decide +kernel)))) (hts (.initialized RX8) (lA_L0 _ (List.mem_of_getElem? (i := 2) (by decide +kernel)))) hK hP hD hS hA rfl (fun j hj => by rcases (show j = 0 ∨ j = 1 ∨ j = 2 ∨ j = 3 ∨ j = 4 ∨ j = 5 ∨ j = 6 by omega) with rfl | rfl | rfl | rfl | rfl | rfl | rfl <;> rfl) (Nat.le_of_ble_eq_true rfl) (Nat.le_of_ble_eq_true rfl) dL_law_0 (fun q0 H hP hD hS => ?_)
  have hP : va_P D vwCl [(q0, .inr (11, [.null, .null, .int 0, .int 0, .int 0, .int 0, .int 0]))] H := hP
  have hD : va_D (fun q : Nat => s.heap.size ≤ q) [(q0, .inr (11, [.null, .null, .int 0, .int 0, .int 0, .int 0, .int 0]))] := hD
  refine W.widen (k := 1) (n := 7) (by omega) (by omega) ?_
  refine lv_dup hx hb dL_law_3 rfl ?_
  have hFc := va_free (wc := [(q0, .inr (11, [.null, .null, .int 0, .int 0, .int 0, .int 0, .int 0]))]) hD hS hA [0] rfl
  refine va_callv (va_runI (As := []) (rest := [.ref q0]) ⟨hx, hb, hml, hown, hts⟩ (cX8_init_ok l D tc q0 ql QL lf H.size (K := fun r f g => r = none ∧ eOk e0 dfC s0C f g) resC (fun r f g h => ⟨h.1, rfl, h.2⟩)) (cwI 0 hts (lGoodIn goodN lA_N (lA_L0 _ (List.mem_of_getElem? (i := 8) (by decide +kernel))) rfl) rfl rfl rfl (hts (.initialized RX8) (lA_L0 _ (List.mem_of_getElem? (i := 2) (by decide +kernel)))) (hts (.methodLink RL 49 yX8_init) (lA_L0 _ (List.mem_of_getElem? (i := 6) (by decide +kernel)))) (hts (.instanceMethod yX8_init) (lA_L0 _ (List.mem_of_getElem? (i := 7) (by decide +kernel)))) rfl (by decide +kernel) ⟨Nat.le_of_ble_eq_true rfl, Nat.le_of_ble_eq_true rfl⟩) ⟨mBlind1, fun U hU hW => ⟨rfl, by rw [hU], by rw [hU]; exact hP, va_K.moved hW.alike hK, hD.weaken (fun _ _ _ _ => trivial), hLd.at hS hFc hU hW⟩⟩ rfl rfl hl.1 rfl (lv_room (Nat.le_of_ble_eq_true rfl)) dL_law_4 ⟨Nat.le_of_ble_eq_true rfl, Nat.le_of_ble_eq_true rfl⟩) hS (fun q _ h => hFc q h) hFc (fun u t H1 locs ht hvm hw hB hz1 hk1 hS => ?_)
  obtain ⟨adC, fC, gC⟩ := u
  obtain ⟨hP1, hD1⟩ := hB
  rw [ht] at hP1
  obtain ⟨hq0, -, hcI⟩ := hw
  obtain ⟨hPn, hDn⟩ := va_join (wr := []) (w1 := mW adC tc shC fC gC) hP hD [0] [] rfl rfl (by decide) (by decide) hk1 hFc hP1 hD1
  clear hP hD hP1 hD1 hk1 hFc
  replace hq0 : adC 0 = q0 := hq0
  subst hq0
  have hP : va_P D vwCl (mW adC tc shC fC gC) H1 := hPn
  have hD : va_D (fun q : Nat => s.heap.size ≤ q) (mW adC tc shC fC gC) := hDn
  refine W.widen (k := 15) (n := 4973) (by omega) (by omega) ?_
  refine lv_astore_n (lv' := [(1, .ref (adC 0)), (0, .ref b)]) hx hb dL_law_7 rfl hl (by decide) rfl (fun ls hl => ?_)
  refine va_new (ci := 12) (fs := [.int 0, .null, .null, .null, .null, .null, .int 0, .int 0, .int 0, .int 0, .int 0, .int 0, .int 0, .int 0, .int 0, .int 0, .int 0, .int 0, .int 0, .int 0, .int 0, .int 0, .int 0, .int 0, .int 0, .int 0, .int 0, .int 0, .int 0, .int 0, .int 0, .int 0, .int 0, .null, .null, .int 0, .int 0, .int 0, .int 0]) (C := RX9) (T := TX9) (N := 39) hx hb hts lI_X9 tyX9 tyX9_ok hown (hts (.classLink RL 50 RX9) (lA_L0 _ (List.mem_of_getElem? (i := 3) (by decide +kernel)))) (hts (.instantiable RX9 39) (lA_L0 _ (List.mem_of_getElem? (i := 4) (by decide +kernel)))) (hts (.initialized RX9) (lA_L0 _ (List.mem_of_getElem? (i := 5) (by decide +kernel)))) hK hP hD hS hA rfl (fun j hj => by rcases (show j = 0 ∨ j = 1 ∨ j = 2 ∨ j = 3 ∨ j = 4 ∨ j = 5 ∨ j = 6 ∨ j = 7 ∨ j = 8 ∨ j = 9 ∨ j = 10 ∨ j = 11 ∨ j = 12 ∨ j = 13 ∨ j = 14 ∨ j = 15 ∨ j = 16 ∨ j = 17 ∨ j = 18 ∨ j = 19 ∨ j = 20 ∨ j = 21 ∨ j = 22 ∨ j = 23 ∨ j = 24 ∨ j = 25 ∨ j = 26 ∨ j = 27 ∨ j = 28 ∨ j = 29 ∨ j = 30 ∨ j = 31 ∨ j = 32 ∨ j = 33 ∨ j = 34 ∨ j = 35 ∨ j = 36 ∨ j = 37 ∨ j = 38 by omega) with rfl | rfl | rfl | rfl | rfl | rfl | rfl | rfl | rfl | rfl | rfl | rfl | rfl | rfl | rfl | rfl | rfl | rfl | rfl | rfl | rfl | rfl | rfl | rfl | rfl | rfl | rfl | rfl | rfl | rfl | rfl | rfl | rfl | rfl | rfl | rfl | rfl | rfl | rfl <;> rfl) (Nat.le_of_ble_eq_true rfl) (Nat.le_of_ble_eq_true rfl) dL_law_8 (fun q9 H2 hP hD hS => ?_)
  refine W.widen (k := 16) (n := 5012) (by omega) (by omega) ?_
  refine lv_dup hx hb dL_law_11 rfl ?_
  have hPc := vP2 hP
  have hDc := vD2 hD
  have hFc := va_free (wc := [(q9, .inr (12, [.int 0, .null, .null, .null, .null, .null, .int 0, .int 0, .int 0, .int 0, .int 0, .int 0, .int 0, .int 0, .int 0, .int 0, .int 0, .int 0, .int 0, .int 0, .int 0, .int 0, .int 0, .int 0, .int 0, .int 0, .int 0, .int 0, .int 0, .int 0, .int 0, .int 0, .int 0, .null, .null, .int 0, .int 0, .int 0, .int 0]))]) hD hS hA [15] rfl
  refine va_callv (va_runI (As := []) (rest := [.ref q9]) ⟨hx, hb, hml, hown, hts⟩ (cX9_init_ok l D tc adK adV q9 H2.size (K := fun r f g => r = none ∧ eOk e0 dfM s0M f g) resM (fun r f g h => ⟨h.1, rfl, h.2⟩)) (cwI 0 hts (lGoodIn goodR lA_R (lA_L0 _ (List.mem_of_getElem? (i := 11) (by decide +kernel))) rfl) rfl rfl rfl (hts (.initialized RX9) (lA_L0 _ (List.mem_of_getElem? (i := 5) (by decide +kernel)))) (hts (.methodLink RL 52 yX9_init) (lA_L0 _ (List.mem_of_getElem? (i := 9) (by decide +kernel)))) (hts (.instanceMethod yX9_init) (lA_L0 _ (List.mem_of_getElem? (i := 10) (by decide +kernel)))) rfl (by decide +kernel) ⟨Nat.le_of_ble_eq_true rfl, Nat.le_of_ble_eq_true rfl⟩) ⟨fun a U g mk q => by
    obtain ⟨q0, q1, qP, qK, qD, qS, qT⟩ := q
    exact ⟨q0, q1, qP, va_K.moved (u := U) (U := U.calling g mk a) (Vm.Alike.refl U.vm) qK, qD, scS.blind (U := U) (U' := U.calling g mk a) rfl rfl qS, fun i hi => vk_R.same rfl (qT i hi)⟩, fun U hU hW => ⟨rfl, by rw [hU], by rw [hU]; exact hPc, va_K.moved hW.alike hK, hDc.weaken (fun _ _ _ _ => trivial), hSc.at hS hFc hU hW, fun i hi => vk_R.warm hW (hSt i hi)⟩⟩ rfl rfl hl.1 rfl (lv_room (Nat.le_of_ble_eq_true rfl)) dL_law_12 ⟨Nat.le_of_ble_eq_true rfl, Nat.le_of_ble_eq_true rfl⟩) hS (fun q _ h => hFc q h) hFc (fun u t H3 locs ht hvm hw hB hz1 hk1 hS => ?_)
  obtain ⟨adM, fM, gM⟩ := u
  obtain ⟨hP1, hD1⟩ := hB
  rw [ht] at hP1
  obtain ⟨hq9, -, hrI⟩ := hw
  obtain ⟨hPn, hDn⟩ := va_join (wr := mW adC tc shC fC gC) (w1 := mW adM tc shM fM gM) hP hD [15] [0, 1, 2, 3, 4, 5, 6, 7, 8, 9, 10, 11, 12, 13, 14] rfl rfl (by decide) (by decide) hk1 hFc hP1 hD1
  clear hP hD hP1 hD1 hk1 hFc hPc hDc
  replace hq9 : adM 0 = q9 := hq9
  subst hq9
  have hP : va_P D vwCl (mW adC tc shC fC gC ++ mW adM tc shM fM gM) H3 := hPn
  have hD : va_D (fun q : Nat => s.heap.size ≤ q) (mW adC tc shC fC gC ++ mW adM tc shM fM gM) := hDn
  refine W.widen (k := 23) (n := 9960) (by omega) (by omega) ?_
  refine lv_astore_n (lv' := [(2, .ref (adM 0)), (1, .ref (adC 0)), (0, .ref b)]) hx hb dL_law_15 rfl hl (by decide) rfl (fun ls hl => ?_)
  refine lv_iconst (v := 1) hx hb dL_law_16 (by decide) ?_
  refine va_newa (atype := .long) (ty := .long) (N' := 1) (a0 := (1, .inr (.inl fun _ => 0))) hx hb (hts (.arrayClass .long) (lA_L0 _ (List.mem_of_getElem? (i := 12) (by decide +kernel)))) rfl hK hP hD hS hA (fun cA => by first | rfl | (rw [vp_cell_l]; rfl)) (by decide) (by decide) (by decide) (Nat.le_of_ble_eq_true rfl) (Nat.le_of_ble_eq_true rfl) dL_law_17 (fun o cA H4 hK3 hP hD hS => ?_)
  have hK2 : va_K D vwCl [(cA, .long)] s := hK3.sub [2] rfl
  have hP : va_P D vwCl (lwW adC adM tc fC gC fM gM cA o (fun _ => 0)) H4 := by
    unfold lwW outW
    rw [List.append_assoc] at hP ⊢
    exact va_P.app (vP1 hP) (vSwapP (vP2 hP))
  have hD : va_D (fun q : Nat => s.heap.size ≤ q) (lwW adC adM tc fC gC fM gM cA o (fun _ => 0)) := by
    unfold lwW outW
    rw [List.append_assoc] at hD ⊢
    exact va_D.app (vD1 hD) (vSwapD (vD2 hD)) (fun i j q r hq hr => vPermA hD hq hr)
  refine W.widen (k := 24) (n := 9961) (by omega) (by omega) ?_
  refine lv_astore_n (lv' := [(3, .ref o), (2, .ref (adM 0)), (1, .ref (adC 0)), (0, .ref b)]) hx hb dL_law_19 rfl hl (by decide) rfl (fun ls hl => ?_)
  refine lv_iconst (v := 0) hx hb dL_law_20 (by decide) ?_
  refine lv_istore (lv' := [(4, .int 0), (3, .ref o), (2, .ref (adM 0)), (1, .ref (adC 0)), (0, .ref b)]) hx hb dL_law_21 hl (by decide) rfl (fun ls hl => ?_)
  exact lLoop hls0 ⟨hx, hb, hml, hown, hts, hK, hK2, hX, hbl, hTX⟩ hr hlocks hL ⟨fC, gC, fM, gM, fun _ => 0, lv_sub hl [4, 3, 2, 1, 0] rfl, hP, hD, hS, hcI, hrI⟩
