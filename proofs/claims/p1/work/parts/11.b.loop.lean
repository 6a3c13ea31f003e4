/-! the law's loop -/
theorem ofNat_lt7 : ∀ L, L < 7 → (Int32.ofNat L - 7 : Int32) < nI 0 := by decide +kernel
theorem nI_sub7 {L : Nat} (h : 7 ≤ L) : (Int32.ofNat L - 7 : Int32) = nI (L - 7) := by
  have e : Int32.ofNat L = nI (L - 7) + 7 := by
    rw [show (7 : Int32) = nI 7 from rfl, nI_add, show L - 7 + 7 = L by omega]
    rfl
  rw [e, Int32.add_sub_cancel]
theorem lSt_12 {D : va_G} {tc : Nat → ClassId} {adC adM : Nat → Nat} {cA : ClassId} {o b i : Nat} {s : State} {H : Heap} {locs : List Loc} {ls : Array Slot} (h : lSt1 D tc adC adM cA o b i s H locs ls) : lSt2 D tc adC adM cA o b i s H locs ls := by
  obtain ⟨fC, gC, fM, gM, w, h1, h2, h3, h4, -⟩ := h
  exact ⟨fC, gC, fM, gM, w, h1, h2, h3, h4⟩
set_option maxHeartbeats 4000000 in
set_option maxRecDepth 100000 in
theorem lLoop {p : Program} {l : Launch} {e : Env} {s : State} {m : MethodId} {below : List Frame} {meth : Method} {c : Code} {D : va_G} {tc : Nat → ClassId} {cA : ClassId} {adC adM : Nat → Nat} {o b L : Nat} {xs : Nat → Int32} (hls0 : l.stackTraces = false) (F : lFix p s m b c L xs D tc cA) (hr : meth.sig.returnType = ret) (hlocks : meth.locks = false) (hL : L ≤ 7) {H : Heap} {locs : List Loc} {ls : Array Slot} (hst : lSt1 D tc adC adM cA o b 0 s H locs ls) : W p l e room_1 s m #[Value.ref b] below meth c H locs 24 9961 (lw_Z below #[Value.ref b] s) (F0 m 23 ls []) := by
  obtain ⟨hx, hb, hml, hown, hts, hK, hK2, hX, hbl, hTX⟩ := id F
  have hbA : ¬ (fun q : Nat => s.heap.size ≤ q) b := Nat.not_le.mpr hbl
  have hkk : ∀ (H : Heap) (locs : List Loc) (ls : Array Slot), lSt2 D tc adC adM cA o b 0 s H locs ls → W p l e room_1 s m #[Value.ref b] below meth c H locs (24 + 1) (9961 + 6) (lw_Z below #[Value.ref b] s) (F0 m 871 ls []) := by
    intro H locs ls hst
    obtain ⟨fC, gC, fM, gM, w, hl, hP, hD, hS⟩ := hst
    refine lv_iinc (v := nI 7) (lv' := [(4, .int (nI 7)), (0, .ref b), (1, .ref (adC 0)), (2, .ref (adM 0)), (3, .ref o)]) hx hb dL_law_871 hl (k := 4) rfl (nI_add 0 7) (by decide) rfl (fun ls hl => ?_)
    refine lv_goto (tgt := 23) hx hb dL_law_874 (by decide) ?_
    refine lv_iload hx hb dL_law_23 (lv_at hl 0 rfl) ?_
    refine lv_aload_n hx hb dL_law_25 rfl (lv_at hl 1 rfl) ?_
    refine va_slen hx hb hX hbl hbA hS dL_law_26 ?_
    refine lv_bipush (v := 7) hx hb dL_law_27 (by decide) ?_
    refine lv_isub hx hb dL_law_29 ?_
    have hend : ∀ L, L ≤ 7 → (Int32.ofNat L - 7 : Int32) < nI 7 := by decide +kernel
    refine lv_icmp_gt (tgt := 877) hx hb dL_law_30 (by decide) (fun _ => ?_) (fun z => absurd (hend L hL) z)
    refine lv_iconst (v := 1) hx hb dL_law_877 (by decide) ?_
    refine va_forget (fun q hq => hS.2.2 q hq) ?_
    refine W.widen (k := 600002) (n := 7302232) (by omega) (by omega) ?_
    exact lw_ret hx hb hr hlocks dL_law_878
  obtain ⟨fC, gC, fM, gM, w, hl, hP, hD, hS, -⟩ := id hst
  refine lv_iload hx hb dL_law_23 (lv_at hl 4 rfl) ?_
  refine lv_aload_n hx hb dL_law_25 rfl (lv_at hl 0 rfl) ?_
  refine va_slen hx hb hX hbl hbA hS dL_law_26 ?_
  refine lv_bipush (v := 7) hx hb dL_law_27 (by decide) ?_
  refine lv_isub hx hb dL_law_29 ?_
  refine lv_icmp_gt (tgt := 877) hx hb dL_law_30 (by decide) (fun c1 => ?_) (fun c1 => ?_)
  · refine lv_iconst (v := 1) hx hb dL_law_877 (by decide) ?_
    refine va_forget (fun q hq => hS.2.2 q hq) ?_
    refine W.widen (k := 600002) (n := 7302232) (by omega) (by omega) ?_
    exact lw_ret hx hb hr hlocks dL_law_878
  · have hi : 0 + 7 ≤ L := by
      rcases Nat.lt_or_ge L 7 with z | z
      · exact absurd (ofNat_lt7 L z) c1
      · omega
    refine lv_aload_n hx hb dL_law_33 rfl (lv_at hl 0 rfl) ?_
    refine lv_iload hx hb dL_law_34 (lv_at hl 4 rfl) ?_
    refine va_sld hx hb hX hbl hbA hS (vp_in_nI (n := 0) (N := L) (by omega) (by omega)) dL_law_36 ?_
    refine lv_bipush (v := 31) hx hb dL_law_37 (by decide) ?_
    refine lv_iand hx hb dL_law_39 ?_
    refine lTable (tg := [(124, 0), (137, 1), (193, 2), (249, 3), (274, 4), (287, 5), (343, 6), (461, 7), (517, 8), (573, 9), (621, 10), (677, 11), (702, 12), (727, 13), (763, 14), (774, 15), (815, 16), (871, 0)]) hx hb dL_law_40 (by decide) (by decide) ?_
    exact ⟨fun _ => case_0 hls0 F hi (by omega) (by omega) (by omega) hst hkk, fun _ => ⟨fun _ => case_1 hls0 F hi (by omega) (by omega) (by omega) hst hkk, fun _ => ⟨fun _ => case_2 hls0 F hi (by omega) (by omega) (by omega) hst hkk, fun _ => ⟨fun _ => case_3 hls0 F hi (by omega) (by omega) (by omega) hst hkk, fun _ => ⟨fun _ => case_4 hls0 F hi (by omega) (by omega) (by omega) hst hkk, fun _ => ⟨fun _ => case_5 hls0 F hi (by omega) (by omega) (by omega) hst hkk, fun _ => ⟨fun _ => case_6 hls0 F hi (by omega) (by omega) (by omega) hst hkk, fun _ => ⟨fun _ => case_7 hls0 F hi (by omega) (by omega) (by omega) hst hkk, fun _ => ⟨fun _ => case_8 hls0 F hi (by omega) (by omega) (by omega) hst hkk, fun _ => ⟨fun _ => case_9 hls0 F hi (by omega) (by omega) (by omega) hst hkk, fun _ => ⟨fun _ => case_10 hls0 F hi (by omega) (by omega) (by omega) hst hkk, fun _ => ⟨fun _ => case_11 hls0 F hi (by omega) (by omega) (by omega) hst hkk, fun _ => ⟨fun _ => case_12 hls0 F hi (by omega) (by omega) (by omega) hst hkk, fun _ => ⟨fun _ => case_13 hls0 F hi (by omega) (by omega) (by omega) hst hkk, fun _ => ⟨fun _ => case_14 hls0 F hi (by omega) (by omega) (by omega) hst hkk, fun _ => ⟨fun _ => case_15 hls0 F hi (by omega) (by omega) (by omega) hst hkk, fun _ => ⟨fun _ => case_16 hls0 F hi (by omega) (by omega) (by omega) hst hkk, fun _ => W.widen (k := 24 + 1) (n := 9961 + 6) (by omega) (by omega) (hkk H locs ls (lSt_12 hst))⟩⟩⟩⟩⟩⟩⟩⟩⟩⟩⟩⟩⟩⟩⟩⟩⟩
