/-! what the Statement gives at the law's start: the facts -/
theorem lNarrow {s : State} {b : Nat} (h : (Jvm.Cond.and given_1 narrow_1).before #[Value.ref b] s = true) : (∀ c ∈ flatC narrow_1_1, c.before #[Value.ref b] s = true) ∧ (∀ c ∈ flatC narrow_1_2, c.before #[Value.ref b] s = true) ∧ (∀ c ∈ flatC narrow_1_3, c.before #[Value.ref b] s = true) ∧ (∀ c ∈ flatC narrow_1_4, c.before #[Value.ref b] s = true) ∧ (∀ c ∈ flatC narrow_1_5, c.before #[Value.ref b] s = true) := by
  rw [Cond.before_and, Bool.and_eq_true] at h
  obtain ⟨-, h⟩ := h
  unfold narrow_1 at h
  rw [Cond.before_and, Bool.and_eq_true] at h
  obtain ⟨hl, hr⟩ := h
  rw [Cond.before_and, Bool.and_eq_true] at hl
  obtain ⟨hll, hlr⟩ := hl
  rw [Cond.before_and, Bool.and_eq_true] at hr
  obtain ⟨hrl, hrr⟩ := hr
  rw [Cond.before_and, Bool.and_eq_true] at hrr
  obtain ⟨hrrl, hrrr⟩ := hrr
  exact ⟨flat_of_before _ hll, flat_of_before _ hlr, flat_of_before _ hrl, flat_of_before _ hrrl, flat_of_before _ hrrr⟩
set_option maxRecDepth 100000 in
set_option maxHeartbeats 4000000 in
theorem lLoader {s : State} {b : Nat} (hs1 : ∀ c ∈ flatC narrow_1_1, c.before #[Value.ref b] s = true) (hs2 : ∀ c ∈ flatC narrow_1_2, c.before #[Value.ref b] s = true) (hs3 : ∀ c ∈ flatC narrow_1_3, c.before #[Value.ref b] s = true) (hs4 : ∀ c ∈ flatC narrow_1_4, c.before #[Value.ref b] s = true) (hs5 : ∀ c ∈ flatC narrow_1_5, c.before #[Value.ref b] s = true) (hts : ∀ w ∈ lw_tbl, w.before #[Value.ref b] s = true) (hh : heapFits s = true) : ∃ (ql L : Nat) (lf : Nat → Int32), lcS ql L lf (fun q => s.heap.size ≤ q) s s.heap := by
  have hA : ∀ a : Nat, a < s.heap.size → ¬ (fun q : Nat => s.heap.size ≤ q) a := fun a h => Nat.not_le.mpr h
  obtain ⟨t, ht, hT⟩ := va_Tof (s := s) (args := #[Value.ref b]) (tm := .static "FlashBoard$Flash" "LOADER" "[I") (ty := .int) (N := 182) (f := fun j => .int (ldr j)) (A := fun q => s.heap.size ≤ q) (by decide) (hs1 (.arrayOf (.static "FlashBoard$Flash" "LOADER" "[I") .int) (List.mem_of_getElem? (i := 3) (by decide +kernel))) (va_eqt (hs1 (.eq (.length (.static "FlashBoard$Flash" "LOADER" "[I")) (.int 182)) (List.mem_of_getElem? (i := 4) (by decide +kernel)))) (fun j hj => by
      rcases Nat.lt_or_ge j 100 with y | y
      · exact va_eqt (hs1 _ (segMem (g := cLd) seg_L_0 (by omega) (by omega)))
      rcases Nat.lt_or_ge j 182 with y | y
      · exact va_eqt (hs1 _ (segMem (g := cLd) seg_L_100 (by omega) (by omega)))
      · omega) hA
  obtain ⟨L, lf, hX⟩ := lcX_of hh hT
  exact ⟨t, L, lf, va_Zof (hts (.laysStatic "FlashBoard$Flash" "LOADER" "[I") (tIn1 (List.mem_of_getElem? (i := 54) (by decide +kernel)))) (hts (.initialized "FlashBoard$Flash") (tIn1 (List.mem_of_getElem? (i := 3) (by decide +kernel)))) ht hA, hX⟩
set_option maxRecDepth 100000 in
set_option maxHeartbeats 4000000 in
theorem lTexts {s : State} {b : Nat} (hs1 : ∀ c ∈ flatC narrow_1_1, c.before #[Value.ref b] s = true) (hs2 : ∀ c ∈ flatC narrow_1_2, c.before #[Value.ref b] s = true) (hs3 : ∀ c ∈ flatC narrow_1_3, c.before #[Value.ref b] s = true) (hs4 : ∀ c ∈ flatC narrow_1_4, c.before #[Value.ref b] s = true) (hs5 : ∀ c ∈ flatC narrow_1_5, c.before #[Value.ref b] s = true) (hts : ∀ w ∈ lw_tbl, w.before #[Value.ref b] s = true) : ∃ adK adV : Nat → Nat, scS adK adV (fun q => s.heap.size ≤ q) s s.heap ∧ ∀ i, i < 4 → vk_R RX9 (scI.getD i 0) (scT.getD i "") (adK i) s := by
  have hA : ∀ a : Nat, a < s.heap.size → ¬ (fun q : Nat => s.heap.size ≤ q) a := fun a h => Nat.not_le.mpr h
  have hex : ∀ i : Nat, i < 4 → (Cond.exactly (tmS i) "java/lang/String").before #[Value.ref b] s = true := by
    intro i hi
    rcases (show i = 0 ∨ i = 1 ∨ i = 2 ∨ i = 3 by omega) with rfl | rfl | rfl | rfl
    · exact (hs2 (.exactly (tmS 0) "java/lang/String") (List.mem_of_getElem? (i := 396) (by decide +kernel)))
    · exact (hs3 (.exactly (tmS 1) "java/lang/String") (List.mem_of_getElem? (i := 313) (by decide +kernel)))
    · exact (hs4 (.exactly (tmS 2) "java/lang/String") (List.mem_of_getElem? (i := 231) (by decide +kernel)))
    · exact (hs5 (.exactly (tmS 3) "java/lang/String") (List.mem_of_getElem? (i := 150) (by decide +kernel)))
  have hco : ∀ i : Nat, i < 4 → (Cond.eq (.field (tmS i) "java/lang/String" "coder" "B") (.int 0)).before #[Value.ref b] s = true := by
    intro i hi
    rcases (show i = 0 ∨ i = 1 ∨ i = 2 ∨ i = 3 by omega) with rfl | rfl | rfl | rfl
    · exact (hs2 (.eq (.field (tmS 0) "java/lang/String" "coder" "B") (.int 0)) (List.mem_of_getElem? (i := 397) (by decide +kernel)))
    · exact (hs3 (.eq (.field (tmS 1) "java/lang/String" "coder" "B") (.int 0)) (List.mem_of_getElem? (i := 314) (by decide +kernel)))
    · exact (hs4 (.eq (.field (tmS 2) "java/lang/String" "coder" "B") (.int 0)) (List.mem_of_getElem? (i := 232) (by decide +kernel)))
    · exact (hs5 (.eq (.field (tmS 3) "java/lang/String" "coder" "B") (.int 0)) (List.mem_of_getElem? (i := 151) (by decide +kernel)))
  have har : ∀ i : Nat, i < 4 → (Cond.arrayOf (.field (tmS i) "java/lang/String" "value" "[B") .byte).before #[Value.ref b] s = true := by
    intro i hi
    rcases (show i = 0 ∨ i = 1 ∨ i = 2 ∨ i = 3 by omega) with rfl | rfl | rfl | rfl
    · exact (hs2 (.arrayOf (.field (tmS 0) "java/lang/String" "value" "[B") .byte) (List.mem_of_getElem? (i := 398) (by decide +kernel)))
    · exact (hs3 (.arrayOf (.field (tmS 1) "java/lang/String" "value" "[B") .byte) (List.mem_of_getElem? (i := 315) (by decide +kernel)))
    · exact (hs4 (.arrayOf (.field (tmS 2) "java/lang/String" "value" "[B") .byte) (List.mem_of_getElem? (i := 233) (by decide +kernel)))
    · exact (hs5 (.arrayOf (.field (tmS 3) "java/lang/String" "value" "[B") .byte) (List.mem_of_getElem? (i := 152) (by decide +kernel)))
  have hle : ∀ i : Nat, i < 4 → (Cond.eq (.length (.field (tmS i) "java/lang/String" "value" "[B")) (.int (Int32.ofNat (scL.getD i 0)))).before #[Value.ref b] s = true := by
    intro i hi
    rcases (show i = 0 ∨ i = 1 ∨ i = 2 ∨ i = 3 by omega) with rfl | rfl | rfl | rfl
    · exact (hs2 (.eq (.length (.field (tmS 0) "java/lang/String" "value" "[B")) (.int (Int32.ofNat (scL.getD 0 0)))) (List.mem_of_getElem? (i := 399) (by decide +kernel)))
    · exact (hs3 (.eq (.length (.field (tmS 1) "java/lang/String" "value" "[B")) (.int (Int32.ofNat (scL.getD 1 0)))) (List.mem_of_getElem? (i := 316) (by decide +kernel)))
    · exact (hs4 (.eq (.length (.field (tmS 2) "java/lang/String" "value" "[B")) (.int (Int32.ofNat (scL.getD 2 0)))) (List.mem_of_getElem? (i := 234) (by decide +kernel)))
    · exact (hs5 (.eq (.length (.field (tmS 3) "java/lang/String" "value" "[B")) (.int (Int32.ofNat (scL.getD 3 0)))) (List.mem_of_getElem? (i := 153) (by decide +kernel)))
  have hel : ∀ i : Nat, i < 4 → ∀ j : Nat, j < scL.getD i 0 → (Cond.eq (.elem (.field (tmS i) "java/lang/String" "value" "[B") (.int (Int32.ofNat j))) (.int ((scB.getD i []).getD j 0))).before #[Value.ref b] s = true := by
    intro i hi j hj
    rcases (show i = 0 ∨ i = 1 ∨ i = 2 ∨ i = 3 by omega) with rfl | rfl | rfl | rfl
    · replace hj : j < 300 := hj
      rcases Nat.lt_or_ge j 100 with y | y
      · exact hs3 _ (segMem (g := cSt 0) seg_0_0 (by omega) (by omega))
      rcases Nat.lt_or_ge j 200 with y | y
      · exact hs3 _ (segMem (g := cSt 0) seg_0_100 (by omega) (by omega))
      rcases Nat.lt_or_ge j 300 with y | y
      · exact hs3 _ (segMem (g := cSt 0) seg_0_200 (by omega) (by omega))
      · omega
    · replace hj : j < 300 := hj
      rcases Nat.lt_or_ge j 83 with y | y
      · exact hs3 _ (segMem (g := cSt 1) seg_1_0 (by omega) (by omega))
      rcases Nat.lt_or_ge j 183 with y | y
      · exact hs4 _ (segMem (g := cSt 1) seg_1_83 (by omega) (by omega))
      rcases Nat.lt_or_ge j 283 with y | y
      · exact hs4 _ (segMem (g := cSt 1) seg_1_183 (by omega) (by omega))
      rcases Nat.lt_or_ge j 300 with y | y
      · exact hs4 _ (segMem (g := cSt 1) seg_1_283 (by omega) (by omega))
      · omega
    · replace hj : j < 300 := hj
      rcases Nat.lt_or_ge j 100 with y | y
      · exact hs4 _ (segMem (g := cSt 2) seg_2_0 (by omega) (by omega))
      rcases Nat.lt_or_ge j 165 with y | y
      · exact hs4 _ (segMem (g := cSt 2) seg_2_100 (by omega) (by omega))
      rcases Nat.lt_or_ge j 265 with y | y
      · exact hs5 _ (segMem (g := cSt 2) seg_2_165 (by omega) (by omega))
      rcases Nat.lt_or_ge j 300 with y | y
      · exact hs5 _ (segMem (g := cSt 2) seg_2_265 (by omega) (by omega))
      · omega
    · replace hj : j < 10 := hj
      rcases Nat.lt_or_ge j 10 with y | y
      · exact hs5 _ (segMem (g := cSt 3) seg_3_0 (by omega) (by omega))
      · omega
  have hne : ∀ i j : Nat, i < 4 → j < 4 → i ≠ j → (Cond.not (Cond.eq (tmS i) (tmS j))).before #[Value.ref b] s = true ∨ (Cond.not (Cond.eq (tmS j) (tmS i))).before #[Value.ref b] s = true := by
    intro i j hi hj hij
    rcases (show i = 0 ∨ i = 1 ∨ i = 2 ∨ i = 3 by omega) with rfl | rfl | rfl | rfl <;> rcases (show j = 0 ∨ j = 1 ∨ j = 2 ∨ j = 3 by omega) with rfl | rfl | rfl | rfl
    · exact absurd rfl hij
    · exact Or.inl (hs4 (.not (.eq (tmS 0) (tmS 1))) (List.mem_of_getElem? (i := 230) (by decide +kernel)))
    · exact Or.inl (hs5 (.not (.eq (tmS 0) (tmS 2))) (List.mem_of_getElem? (i := 148) (by decide +kernel)))
    · exact Or.inl (hs5 (.not (.eq (tmS 0) (tmS 3))) (List.mem_of_getElem? (i := 177) (by decide +kernel)))
    · exact Or.inr (hs4 (.not (.eq (tmS 0) (tmS 1))) (List.mem_of_getElem? (i := 230) (by decide +kernel)))
    · exact absurd rfl hij
    · exact Or.inl (hs5 (.not (.eq (tmS 1) (tmS 2))) (List.mem_of_getElem? (i := 149) (by decide +kernel)))
    · exact Or.inl (hs5 (.not (.eq (tmS 1) (tmS 3))) (List.mem_of_getElem? (i := 178) (by decide +kernel)))
    · exact Or.inr (hs5 (.not (.eq (tmS 0) (tmS 2))) (List.mem_of_getElem? (i := 148) (by decide +kernel)))
    · exact Or.inr (hs5 (.not (.eq (tmS 1) (tmS 2))) (List.mem_of_getElem? (i := 149) (by decide +kernel)))
    · exact absurd rfl hij
    · exact Or.inl (hs5 (.not (.eq (tmS 2) (tmS 3))) (List.mem_of_getElem? (i := 179) (by decide +kernel)))
    · exact Or.inr (hs5 (.not (.eq (tmS 0) (tmS 3))) (List.mem_of_getElem? (i := 177) (by decide +kernel)))
    · exact Or.inr (hs5 (.not (.eq (tmS 1) (tmS 3))) (List.mem_of_getElem? (i := 178) (by decide +kernel)))
    · exact Or.inr (hs5 (.not (.eq (tmS 2) (tmS 3))) (List.mem_of_getElem? (i := 179) (by decide +kernel)))
    · exact absurd rfl hij
  obtain ⟨adK, adV, hV, hev⟩ := vk_Sof (fun i hi => (scL_ok i hi).1) hex hco har hle hel hne hA
  refine ⟨adK, adV, ⟨hV, va_Zof (hts (.laysStatic "java/lang/String" "COMPACT_STRINGS" "Z") (tIn2 (List.mem_of_getElem? (i := 117) (by decide +kernel)))) (hts (.initialized "java/lang/String") (tIn1 (List.mem_of_getElem? (i := 18) (by decide +kernel)))) (va_eqi (hs1 (.eq (.static "java/lang/String" "COMPACT_STRINGS" "Z") (.int 1)) (List.mem_of_getElem? (i := 189) (by decide +kernel)))) hA, ?_⟩, fun i hi => ?_⟩
  · obtain ⟨v, hv⟩ : ∃ t, (Term.static "jdk/internal/util/Preconditions" "SIOOBE_FORMATTER" "Ljava/util/function/BiFunction;").eval #[Value.ref b] s none [] s = some t := by
      have h := (hs1 (.isRef (.static "jdk/internal/util/Preconditions" "SIOOBE_FORMATTER" "Ljava/util/function/BiFunction;")) (List.mem_of_getElem? (i := 190) (by decide +kernel)))
      cases hv : (Term.static "jdk/internal/util/Preconditions" "SIOOBE_FORMATTER" "Ljava/util/function/BiFunction;").eval #[Value.ref b] s none [] s with
      | none => simp [Cond.before, Cond.holds, Cond.value, hv] at h
      | some w => exact ⟨w, rfl⟩
    have hr : v = .null ∨ ∃ t, v = .ref t := by
      have h := (hs1 (.isRef (.static "jdk/internal/util/Preconditions" "SIOOBE_FORMATTER" "Ljava/util/function/BiFunction;")) (List.mem_of_getElem? (i := 190) (by decide +kernel)))
      simp only [Cond.before, Cond.holds, Cond.value, hv] at h
      cases v <;> simp_all
    have hZ := va_Zof (hts (.laysStatic "jdk/internal/util/Preconditions" "SIOOBE_FORMATTER" "Ljava/util/function/BiFunction;") (tIn2 (List.mem_of_getElem? (i := 202) (by decide +kernel)))) (hts (.initialized "jdk/internal/util/Preconditions") (tIn1 (List.mem_of_getElem? (i := 22) (by decide +kernel)))) hv hA
    rcases hr with rfl | ⟨t, rfl⟩
    · exact Or.inl hZ
    · exact Or.inr ⟨t, hZ⟩
  · refine vk_R.of (A := #[Value.ref b]) ?_ (hev i hi)
    rcases (show i = 0 ∨ i = 1 ∨ i = 2 ∨ i = 3 by omega) with rfl | rfl | rfl | rfl
    · exact (hts (.stringRef "FlashBoardModel" 44 (scT.getD 0 "")) (tIn6 (List.mem_of_getElem? (i := 19) (by decide +kernel))))
    · exact (hts (.stringRef "FlashBoardModel" 50 (scT.getD 1 "")) (tIn6 (List.mem_of_getElem? (i := 52) (by decide +kernel))))
    · exact (hts (.stringRef "FlashBoardModel" 52 (scT.getD 2 "")) (tIn6 (List.mem_of_getElem? (i := 53) (by decide +kernel))))
    · exact (hts (.stringRef "FlashBoardModel" 54 (scT.getD 3 "")) (tIn6 (List.mem_of_getElem? (i := 54) (by decide +kernel))))
set_option maxRecDepth 100000 in
set_option maxHeartbeats 4000000 in
theorem lB_IllegalArgumentException : ∀ w ∈ vTb "java/lang/IllegalArgumentException", w ∈ lw_tbl :=
  List.forall_mem_cons.mpr ⟨tIn2 (List.mem_of_getElem? (i := 67) (by decide +kernel)), List.forall_mem_cons.mpr ⟨tIn2 (List.mem_of_getElem? (i := 69) (by decide +kernel)), List.forall_mem_cons.mpr ⟨tIn2 (List.mem_of_getElem? (i := 71) (by decide +kernel)), List.forall_mem_cons.mpr ⟨tIn2 (List.mem_of_getElem? (i := 73) (by decide +kernel)), fun _ h => absurd h List.not_mem_nil⟩⟩⟩⟩
set_option maxRecDepth 100000 in
set_option maxHeartbeats 4000000 in
theorem lB_NoSuchElementException : ∀ w ∈ vTb "java/util/NoSuchElementException", w ∈ lw_tbl :=
  List.forall_mem_cons.mpr ⟨tIn5 (List.mem_of_getElem? (i := 149) (by decide +kernel)), List.forall_mem_cons.mpr ⟨tIn2 (List.mem_of_getElem? (i := 69) (by decide +kernel)), List.forall_mem_cons.mpr ⟨tIn2 (List.mem_of_getElem? (i := 71) (by decide +kernel)), List.forall_mem_cons.mpr ⟨tIn2 (List.mem_of_getElem? (i := 73) (by decide +kernel)), fun _ h => absurd h List.not_mem_nil⟩⟩⟩⟩
set_option maxRecDepth 100000 in
set_option maxHeartbeats 4000000 in
theorem lB_IndexOutOfBoundsException : ∀ w ∈ vTb "java/lang/IndexOutOfBoundsException", w ∈ lw_tbl :=
  List.forall_mem_cons.mpr ⟨tIn5 (List.mem_of_getElem? (i := 176) (by decide +kernel)), List.forall_mem_cons.mpr ⟨tIn2 (List.mem_of_getElem? (i := 69) (by decide +kernel)), List.forall_mem_cons.mpr ⟨tIn2 (List.mem_of_getElem? (i := 71) (by decide +kernel)), List.forall_mem_cons.mpr ⟨tIn2 (List.mem_of_getElem? (i := 73) (by decide +kernel)), fun _ h => absurd h List.not_mem_nil⟩⟩⟩⟩
set_option maxRecDepth 100000 in
set_option maxHeartbeats 4000000 in
theorem lThrows {s : State} {b : Nat} (hs1 : ∀ c ∈ flatC narrow_1_1, c.before #[Value.ref b] s = true) (hs2 : ∀ c ∈ flatC narrow_1_2, c.before #[Value.ref b] s = true) (hs3 : ∀ c ∈ flatC narrow_1_3, c.before #[Value.ref b] s = true) (hs4 : ∀ c ∈ flatC narrow_1_4, c.before #[Value.ref b] s = true) (hs5 : ∀ c ∈ flatC narrow_1_5, c.before #[Value.ref b] s = true) (hts : ∀ w ∈ lw_tbl, w.before #[Value.ref b] s = true) : ∀ q ∈ lTx, ∃ sa, hTw q.1 sa q.2.1 q.2.2 (fun q => s.heap.size ≤ q) s s.heap := by
  have hA : ∀ a : Nat, a < s.heap.size → ¬ (fun q : Nat => s.heap.size ≤ q) a := fun a h => Nat.not_le.mpr h
  have hU : vx_Zq Bundle.tN "UNASSIGNED_STACK" Bundle.steD (fun q => s.heap.size ≤ q) s s.heap := (vx_Zqof (hts (.laysStatic "java/lang/Throwable" "UNASSIGNED_STACK" "[Ljava/lang/StackTraceElement;") (tIn2 (List.mem_of_getElem? (i := 92) (by decide +kernel)))) (hts (.initialized "java/lang/Throwable") (tIn1 (List.mem_of_getElem? (i := 12) (by decide +kernel)))) (hs1 (.isRef (.static "java/lang/Throwable" "UNASSIGNED_STACK" "[Ljava/lang/StackTraceElement;")) (List.mem_of_getElem? (i := 187) (by decide +kernel))) hA)
  have hN : vx_Zq Bundle.tN "SUPPRESSED_SENTINEL" Bundle.listD (fun q => s.heap.size ≤ q) s s.heap := (vx_Zqof (hts (.laysStatic "java/lang/Throwable" "SUPPRESSED_SENTINEL" "Ljava/util/List;") (tIn2 (List.mem_of_getElem? (i := 94) (by decide +kernel)))) (hts (.initialized "java/lang/Throwable") (tIn1 (List.mem_of_getElem? (i := 12) (by decide +kernel)))) (hs1 (.isRef (.static "java/lang/Throwable" "SUPPRESSED_SENTINEL" "Ljava/util/List;")) (List.mem_of_getElem? (i := 188) (by decide +kernel))) hA)
  intro q hq
  simp only [lTx, List.mem_cons, List.not_mem_nil, or_false] at hq
  rcases hq with rfl | rfl | rfl | rfl | rfl | rfl | rfl | rfl
  · obtain ⟨a, c, cA, kA, q1, -⟩ := Cond.exactly_spec (args := #[Value.ref b]) (first := s) (o := none) (s := s) (idx := []) (t := .string "FlashBoard" 39) (cls := "java/lang/String") (hs2 (.exactly (.string "FlashBoard" 39) "java/lang/String") (List.mem_of_getElem? (i := 126) (by decide +kernel)))
    exact ⟨a, hU, hN, vk_R.of (A := #[Value.ref b]) (hts (.stringRef "FlashBoard" 39 "n is not 1 .. 5000") (tIn5 (List.mem_of_getElem? (i := 128) (by decide +kernel)))) q1, fun w hw => va_Nw.of (vTb_on _ w hw) (hts w (lB_IllegalArgumentException w hw))⟩
  · obtain ⟨a, c, cA, kA, q1, -⟩ := Cond.exactly_spec (args := #[Value.ref b]) (first := s) (o := none) (s := s) (idx := []) (t := .string "FlashBoard" 45) (cls := "java/lang/String") (hs2 (.exactly (.string "FlashBoard" 45) "java/lang/String") (List.mem_of_getElem? (i := 153) (by decide +kernel)))
    exact ⟨a, hU, hN, vk_R.of (A := #[Value.ref b]) (hts (.stringRef "FlashBoard" 45 "n is not 1 .. 200000") (tIn5 (List.mem_of_getElem? (i := 138) (by decide +kernel)))) q1, fun w hw => va_Nw.of (vTb_on _ w hw) (hts w (lB_IllegalArgumentException w hw))⟩
  · obtain ⟨a, c, cA, kA, q1, -⟩ := Cond.exactly_spec (args := #[Value.ref b]) (first := s) (o := none) (s := s) (idx := []) (t := .string "FlashBoard" 63) (cls := "java/lang/String") (hs2 (.exactly (.string "FlashBoard" 63) "java/lang/String") (List.mem_of_getElem? (i := 183) (by decide +kernel)))
    exact ⟨a, hU, hN, vk_R.of (A := #[Value.ref b]) (hts (.stringRef "FlashBoard" 63 "no such byte is kept") (tIn5 (List.mem_of_getElem? (i := 156) (by decide +kernel)))) q1, fun w hw => va_Nw.of (vTb_on _ w hw) (hts w (lB_NoSuchElementException w hw))⟩
  · obtain ⟨a, c, cA, kA, q1, -⟩ := Cond.exactly_spec (args := #[Value.ref b]) (first := s) (o := none) (s := s) (idx := []) (t := .string "FlashBoard" 76) (cls := "java/lang/String") (hs2 (.exactly (.string "FlashBoard" 76) "java/lang/String") (List.mem_of_getElem? (i := 214) (by decide +kernel)))
    exact ⟨a, hU, hN, vk_R.of (A := #[Value.ref b]) (hts (.stringRef "FlashBoard" 76 "no address of FLASH") (tIn5 (List.mem_of_getElem? (i := 183) (by decide +kernel)))) q1, fun w hw => va_Nw.of (vTb_on _ w hw) (hts w (lB_IndexOutOfBoundsException w hw))⟩
  · obtain ⟨a, c, cA, kA, q1, -⟩ := Cond.exactly_spec (args := #[Value.ref b]) (first := s) (o := none) (s := s) (idx := []) (t := .string "FlashBoard" 92) (cls := "java/lang/String") (hs2 (.exactly (.string "FlashBoard" 92) "java/lang/String") (List.mem_of_getElem? (i := 245) (by decide +kernel)))
    exact ⟨a, hU, hN, vk_R.of (A := #[Value.ref b]) (hts (.stringRef "FlashBoard" 92 "no address of DATA") (tIn5 (List.mem_of_getElem? (i := 205) (by decide +kernel)))) q1, fun w hw => va_Nw.of (vTb_on _ w hw) (hts w (lB_IndexOutOfBoundsException w hw))⟩
  · obtain ⟨a, c, cA, kA, q1, -⟩ := Cond.exactly_spec (args := #[Value.ref b]) (first := s) (o := none) (s := s) (idx := []) (t := .string "FlashBoard" 103) (cls := "java/lang/String") (hs2 (.exactly (.string "FlashBoard" 103) "java/lang/String") (List.mem_of_getElem? (i := 276) (by decide +kernel)))
    exact ⟨a, hU, hN, vk_R.of (A := #[Value.ref b]) (hts (.stringRef "FlashBoard" 103 "no register, SP, SREG or RAM") (tIn5 (List.mem_of_getElem? (i := 221) (by decide +kernel)))) q1, fun w hw => va_Nw.of (vTb_on _ w hw) (hts w (lB_IndexOutOfBoundsException w hw))⟩
  · obtain ⟨a, c, cA, kA, q1, -⟩ := Cond.exactly_spec (args := #[Value.ref b]) (first := s) (o := none) (s := s) (idx := []) (t := .string "FlashBoard" 117) (cls := "java/lang/String") (hs2 (.exactly (.string "FlashBoard" 117) "java/lang/String") (List.mem_of_getElem? (i := 318) (by decide +kernel)))
    exact ⟨a, hU, hN, vk_R.of (A := #[Value.ref b]) (hts (.stringRef "FlashBoard" 117 "no address of the EEPROM") (tIn5 (List.mem_of_getElem? (i := 229) (by decide +kernel)))) q1, fun w hw => va_Nw.of (vTb_on _ w hw) (hts w (lB_IndexOutOfBoundsException w hw))⟩
  · obtain ⟨a, c, cA, kA, q1, -⟩ := Cond.exactly_spec (args := #[Value.ref b]) (first := s) (o := none) (s := s) (idx := []) (t := .string "FlashBoard" 207) (cls := "java/lang/String") (hs2 (.exactly (.string "FlashBoard" 207) "java/lang/String") (List.mem_of_getElem? (i := 357) (by decide +kernel)))
    exact ⟨a, hU, hN, vk_R.of (A := #[Value.ref b]) (hts (.stringRef "FlashBoard" 207 "nothing is told of that") (tIn6 (List.mem_of_getElem? (i := 11) (by decide +kernel)))) q1, fun w hw => va_Nw.of (vTb_on _ w hw) (hts w (lB_NoSuchElementException w hw))⟩
set_option maxRecDepth 100000 in
set_option maxHeartbeats 4000000 in
theorem lI_J0 : ∀ w ∈ u_ws RJ0 TJ0 4, w ∈ lw_tbl := fun w h => (goodIn_p (u_ws RJ0 TJ0 4) [] rfl (by decide +kernel) w h).1
set_option maxRecDepth 100000 in
set_option maxHeartbeats 4000000 in
theorem lI_J4 : ∀ w ∈ u_ws RJ4 TJ4 4, w ∈ lw_tbl := fun w h => (goodIn_p (u_ws RJ4 TJ4 4) [] rfl (by decide +kernel) w h).1
set_option maxRecDepth 100000 in
set_option maxHeartbeats 4000000 in
theorem lI_Jx00060 : ∀ w ∈ u_ws RJx00060 TJx00060 6, w ∈ lw_tbl := fun w h => (goodIn_p (u_ws RJx00060 TJx00060 6) [] rfl (by decide +kernel) w h).1
theorem lI_X0 : ∀ w ∈ u_ws RX0 TX0 1, w ∈ lw_tbl := fun w h => lA_C w (inC_X0 w h)
theorem lI_X1 : ∀ w ∈ u_ws RX1 TX1 8, w ∈ lw_tbl := fun w h => lA_C w (inC_X1 w h)
theorem lI_X2 : ∀ w ∈ u_ws RX2 TX2 4, w ∈ lw_tbl := fun w h => lA_C w (inC_X2 w h)
theorem lI_X3 : ∀ w ∈ u_ws RX3 TX3 8, w ∈ lw_tbl := fun w h => lA_C w (inC_X3 w h)
theorem lI_X4 : ∀ w ∈ u_ws RX4 TX4 15, w ∈ lw_tbl := fun w h => lA_C w (inC_X4 w h)
theorem lI_X5 : ∀ w ∈ u_ws RX5 TX5 9, w ∈ lw_tbl := fun w h => lA_C w (inC_X5 w h)
theorem lI_X6 : ∀ w ∈ u_ws RX6 TX6 2, w ∈ lw_tbl := fun w h => lA_C w (inC_X6 w h)
theorem lI_X7 : ∀ w ∈ u_ws RX7 TX7 3, w ∈ lw_tbl := fun w h => lA_C w (inC_X7 w h)
theorem lI_X8 : ∀ w ∈ u_ws RX8 TX8 7, w ∈ lw_tbl := fun w h => lA_C w (inC_X8 w h)
theorem lI_X9 : ∀ w ∈ u_ws RX9 TX9 39, w ∈ lw_tbl := fun w h => lA_M w (inM_X9 w h)
set_option maxRecDepth 100000 in
set_option maxHeartbeats 4000000 in
theorem lKinds {s : State} {b : Nat} (hts : ∀ w ∈ lw_tbl, w.before #[Value.ref b] s = true) : ∃ (D : va_G) (tc : Nat → ClassId), va_K D vwCl (mTy tc) s := by
  obtain ⟨c0, iS0, h0⟩ := u_known (C := RJ0) (T := TJ0) (N := 4) (n := 4) hts lI_J0 (hts (.instantiable RJ0 4) (tIn3 (List.mem_of_getElem? (i := 50) (by decide +kernel))))
  obtain ⟨c1, iS1, h1⟩ := u_known (C := RJ4) (T := TJ4) (N := 4) (n := 4) hts lI_J4 (hts (.instantiable RJ4 4) (tIn2 (List.mem_of_getElem? (i := 108) (by decide +kernel))))
  obtain ⟨c2, iS2, h2⟩ := u_known (C := RJx00060) (T := TJx00060) (N := 6) (n := 6) hts lI_Jx00060 (hts (.instantiable RJx00060 6) (tIn3 (List.mem_of_getElem? (i := 132) (by decide +kernel))))
  obtain ⟨c3, iS3, h3⟩ := u_known (C := RX0) (T := TX0) (N := 1) (n := 1) hts lI_X0 (hts (.instantiable RX0 1) (tIn2 (List.mem_of_getElem? (i := 13) (by decide +kernel))))
  obtain ⟨c4, iS4, h4⟩ := u_known (C := RX1) (T := TX1) (N := 8) (n := 8) hts lI_X1 (hts (.instantiable RX1 8) (tIn2 (List.mem_of_getElem? (i := 7) (by decide +kernel))))
  obtain ⟨c5, iS5, h5⟩ := u_known (C := RX2) (T := TX2) (N := 4) (n := 4) hts lI_X2 (hts (.instantiable RX2 4) (tIn1 (List.mem_of_getElem? (i := 164) (by decide +kernel))))
  obtain ⟨c6, iS6, h6⟩ := u_known (C := RX3) (T := TX3) (N := 8) (n := 8) hts lI_X3 (hts (.instantiable RX3 8) (tIn1 (List.mem_of_getElem? (i := 44) (by decide +kernel))))
  obtain ⟨c7, iS7, h7⟩ := u_known (C := RX4) (T := TX4) (N := 15) (n := 15) hts lI_X4 (hts (.instantiable RX4 15) (tIn1 (List.mem_of_getElem? (i := 106) (by decide +kernel))))
  obtain ⟨c8, iS8, h8⟩ := u_known (C := RX5) (T := TX5) (N := 9) (n := 9) hts lI_X5 (hts (.instantiable RX5 9) (tIn1 (List.mem_of_getElem? (i := 38) (by decide +kernel))))
  obtain ⟨c9, iS9, h9⟩ := u_known (C := RX6) (T := TX6) (N := 2) (n := 2) hts lI_X6 (hts (.instantiable RX6 2) (tIn1 (List.mem_of_getElem? (i := 91) (by decide +kernel))))
  obtain ⟨c10, iS10, h10⟩ := u_known (C := RX7) (T := TX7) (N := 3) (n := 3) hts lI_X7 (hts (.instantiable RX7 3) (tIn1 (List.mem_of_getElem? (i := 187) (by decide +kernel))))
  obtain ⟨c11, iS11, h11⟩ := u_known (C := RX8) (T := TX8) (N := 7) (n := 7) hts lI_X8 (hts (.instantiable RX8 7) (tIn1 (List.mem_of_getElem? (i := 30) (by decide +kernel))))
  obtain ⟨c12, iS12, h12⟩ := u_known (C := RX9) (T := TX9) (N := 39) (n := 39) hts lI_X9 (hts (.instantiable RX9 39) (tIn6 (List.mem_of_getElem? (i := 13) (by decide +kernel))))
  obtain ⟨cI, kI, oI, i1, i2, i3⟩ := Cond.arrayClass_spec (hts (.arrayClass .int) (tIn1 (List.mem_of_getElem? (i := 89) (by decide +kernel))))
  obtain ⟨cZ, kZ, oZ, z1, z2, z3⟩ := Cond.arrayClass_spec (hts (.arrayClass .boolean) (tIn6 (List.mem_of_getElem? (i := 185) (by decide +kernel))))
  refine ⟨(fun k => if k = 0 then c0 else if k = 1 then c1 else if k = 2 then c2 else if k = 3 then c3 else if k = 4 then c4 else if k = 5 then c5 else if k = 6 then c6 else if k = 7 then c7 else if k = 8 then c8 else if k = 9 then c9 else if k = 10 then c10 else if k = 11 then c11 else c12, fun k => if k = 0 then iS0 else if k = 1 then iS1 else if k = 2 then iS2 else if k = 3 then iS3 else if k = 4 then iS4 else if k = 5 then iS5 else if k = 6 then iS6 else if k = 7 then iS7 else if k = 8 then iS8 else if k = 9 then iS9 else if k = 10 then iS10 else if k = 11 then iS11 else iS12), fun k => if k = 0 then cI else cZ, ?_, ?_⟩
  · intro k q hq
    match k, hq with
    | 0, hq => cases hq; exact h0
    | 1, hq => cases hq; exact h1
    | 2, hq => cases hq; exact h2
    | 3, hq => cases hq; exact h3
    | 4, hq => cases hq; exact h4
    | 5, hq => cases hq; exact h5
    | 6, hq => cases hq; exact h6
    | 7, hq => cases hq; exact h7
    | 8, hq => cases hq; exact h8
    | 9, hq => cases hq; exact h9
    | 10, hq => cases hq; exact h10
    | 11, hq => cases hq; exact h11
    | 12, hq => cases hq; exact h12
    | k + 13, hq => simp [vwCl] at hq
  · intro k q hq
    match k, hq with
    | 0, hq => cases hq; exact ⟨fun n z => ⟨fun k h => (by cases h), kI, i2, oI, i3⟩, i1⟩
    | 1, hq => cases hq; exact ⟨fun n z => ⟨fun k h => (by cases h), kZ, z2, oZ, z3⟩, z1⟩
    | k + 2, hq => simp [mTy] at hq
