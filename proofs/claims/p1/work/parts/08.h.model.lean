/-! FlashBoardModel() -/
def fillI (x : Int32) (g1 : Nat → Int32) (k : Nat) : Nat → Int32 := fun j => if j < k then x else g1 j
theorem fillI_0 (x : Int32) (g1 : Nat → Int32) : fillI x g1 0 = g1 := by
  funext j
  unfold fillI
  rw [if_neg (Nat.not_lt_zero j)]
theorem fillI_s (x : Int32) (g1 : Nat → Int32) (k : Nat) : upd (fillI x g1 k) k x = fillI x g1 (k + 1) := by
  funext j
  by_cases hj : j = k
  · subst hj
    rw [pk_us]
    unfold fillI
    rw [if_pos (Nat.lt_succ_self _)]
  · rw [pk_un hj]
    unfold fillI
    by_cases h : j < k
    · rw [if_pos h, if_pos (by omega)]
    · rw [if_neg h, if_neg (by omega)]
set_option maxHeartbeats 4000000 in
set_option maxRecDepth 100000 in
theorem init_loop1 {p : Program} {l : Launch} {e : Env} {R : Room} {s : State} {m : MethodId} {args : Array Value} {below : List Frame} {meth : Method} {c : Code} {cells slots : Nat} {Q : State → Prop} {D : va_G} {ad : Nat → Nat} {tc : Nat → ClassId} {A : Nat → Prop} {f : mFn} {g : mGn} (hx : p.tables.exec = Jvm.exec) (hb : c.code = cX9_init) (hml : c.maxLocals = 2) (hown : s.vm.findClass RX9 = some m.cls) (hts : ∀ w ∈ .code yX9_init cX9_init 2 none :: wR, w.before args s = true) (hK : va_K D vwCl (mTy tc) s) (hA : ∀ q : Nat, s.heap.size ≤ q → A q)
    (kk : ∀ (H : Heap) (locs : List Loc) (ls : Array Slot), lv_has ls 2 [(1, .int (nI 2048)), (0, .ref (ad 0))] → va_P D vwCl (mW ad tc shM f (mUp g 1 (fillI 65535 (g 1) 2048))) H → va_D A (mW ad tc shM f (mUp g 1 (fillI 65535 (g 1) 2048))) → va_S A s.heap H locs → W p l e R s m args below meth c H locs cells slots Q (F0 m 104 ls [])) :
    ∀ (t k : Nat) (H : Heap) (locs : List Loc) (ls : Array Slot), k ≤ 2048 → 2048 - k < t → lv_has ls 2 [(1, .int (nI k)), (0, .ref (ad 0))] → va_P D vwCl (mW ad tc shM f (mUp g 1 (fillI 65535 (g 1) k))) H → va_D A (mW ad tc shM f (mUp g 1 (fillI 65535 (g 1) k))) → va_S A s.heap H locs → W p l e R s m args below meth c H locs cells slots Q (F0 m 83 ls []) := by
  intro t
  induction t with
  | zero => intro k H locs ls h1 hm; exact absurd hm (Nat.not_lt_zero _)
  | succ t ih =>
  intro k H locs ls hk hm hl hP hD hS
  refine lv_iload_n hx hb dX9_init_83 rfl (lv_at hl 0 rfl) ?_
  refine lv_sipush (v := nI 2048) hx hb dX9_init_84 (by decide) ?_
  refine lv_icmp_ge (tgt := 104) hx hb dX9_init_87 (by decide) (fun z => ?_) (fun z => ?_)
  · have e : k = 2048 := by
      rcases Nat.lt_or_ge k 2048 with y | y
      · exact absurd z (nI_ge y (by decide))
      · omega
    subst e
    exact kk H _ ls hl hP hD hS
  have hk2 : k < 2048 := by
    rcases Nat.lt_or_ge k 2048 with y | y
    · exact y
    · exact absurd (nI_le y (by omega)) z
  refine lv_aload_n hx hb dX9_init_90 rfl (lv_at hl 1 rfl) ?_
  refine va_get (D := D) (ci := 12) (v := .ref (ad 1)) (C := RX9) (T := TX9) (N := 39) hx hb hts (fun w h => mIn (inR_X9 w h)) hown hK hP 0 (mW_get (c := .inl (12, flM)) (i := 0) rfl) rfl 1 (by decide) (hts (.fieldLink RX9 7 "FlashBoardModel" "flash" "[I") (mIn (List.mem_append_right _ (mAt (i := 57) (by decide +kernel))))) (fun _ h9 => h9) (by rw [mFl_get]; rfl) dX9_init_91 ?_
  refine lv_iload_n hx hb dX9_init_94 rfl (lv_at hl 0 rfl) ?_
  refine lv_ldc (v := 65535) hx hb hown (hts (.constant RX9 43 (65535)) (mIn (List.mem_append_right _ (mAt (i := 58) (by decide +kernel))))) dX9_init_95 ?_
  refine va_iast hx hb hK hP hD hS 1 0 (mW_get (c := .inr (0, 2048)) (i := 1) rfl) rfl (vp_in_nI (n := k) (N := 2048) hk2 (by decide)) dX9_init_97 (fun H locs hP hD hS => ?_)
  rw [mW_arr (j := 1) (t := 0) (n := 2048) rfl, nI_clamp (by omega), mUp_u, mUp_s, fillI_s] at hP hD
  refine lv_iinc (v := nI k + 1) (lv' := [(1, .int (nI k + 1)), (0, .ref (ad 0))]) hx hb dX9_init_98 hl (k := 0) rfl rfl (by decide) rfl (fun ls hl => ?_)
  refine lv_goto (tgt := 83) hx hb dX9_init_101 (by decide) ?_
  rw [nI_1] at hl
  exact ih (k + 1) H _ ls hk2 (by omega) hl hP hD hS
set_option maxHeartbeats 4000000 in
set_option maxRecDepth 100000 in
theorem init_loop2 {p : Program} {l : Launch} {e : Env} {R : Room} {s : State} {m : MethodId} {args : Array Value} {below : List Frame} {meth : Method} {c : Code} {cells slots : Nat} {Q : State → Prop} {D : va_G} {ad : Nat → Nat} {tc : Nat → ClassId} {A : Nat → Prop} {f : mFn} {g : mGn} (hx : p.tables.exec = Jvm.exec) (hb : c.code = cX9_init) (hml : c.maxLocals = 2) (hown : s.vm.findClass RX9 = some m.cls) (hts : ∀ w ∈ .code yX9_init cX9_init 2 none :: wR, w.before args s = true) (hK : va_K D vwCl (mTy tc) s) (hA : ∀ q : Nat, s.heap.size ≤ q → A q)
    (kk : ∀ (H : Heap) (locs : List Loc) (ls : Array Slot), lv_has ls 2 [(1, .int (nI 256)), (0, .ref (ad 0))] → va_P D vwCl (mW ad tc shM f (mUp g 4 (fillI 255 (g 4) 256))) H → va_D A (mW ad tc shM f (mUp g 4 (fillI 255 (g 4) 256))) → va_S A s.heap H locs → W p l e R s m args below meth c H locs cells slots Q (F0 m 164 ls [])) :
    ∀ (t k : Nat) (H : Heap) (locs : List Loc) (ls : Array Slot), k ≤ 256 → 256 - k < t → lv_has ls 2 [(1, .int (nI k)), (0, .ref (ad 0))] → va_P D vwCl (mW ad tc shM f (mUp g 4 (fillI 255 (g 4) k))) H → va_D A (mW ad tc shM f (mUp g 4 (fillI 255 (g 4) k))) → va_S A s.heap H locs → W p l e R s m args below meth c H locs cells slots Q (F0 m 142 ls []) := by
  intro t
  induction t with
  | zero => intro k H locs ls h1 hm; exact absurd hm (Nat.not_lt_zero _)
  | succ t ih =>
  intro k H locs ls hk hm hl hP hD hS
  refine lv_iload_n hx hb dX9_init_142 rfl (lv_at hl 0 rfl) ?_
  refine lv_sipush (v := nI 256) hx hb dX9_init_143 (by decide) ?_
  refine lv_icmp_ge (tgt := 164) hx hb dX9_init_146 (by decide) (fun z => ?_) (fun z => ?_)
  · have e : k = 256 := by
      rcases Nat.lt_or_ge k 256 with y | y
      · exact absurd z (nI_ge y (by decide))
      · omega
    subst e
    exact kk H _ ls hl hP hD hS
  have hk2 : k < 256 := by
    rcases Nat.lt_or_ge k 256 with y | y
    · exact y
    · exact absurd (nI_le y (by omega)) z
  refine lv_aload_n hx hb dX9_init_149 rfl (lv_at hl 1 rfl) ?_
  refine va_get (D := D) (ci := 12) (v := .ref (ad 4)) (C := RX9) (T := TX9) (N := 39) hx hb hts (fun w h => mIn (inR_X9 w h)) hown hK hP 0 (mW_get (c := .inl (12, flM)) (i := 0) rfl) rfl 4 (by decide) (hts (.fieldLink RX9 19 "FlashBoardModel" "rom" "[I") (mIn (List.mem_append_right _ (mAt (i := 91) (by decide +kernel))))) (fun _ h9 => h9) (by rw [mFl_get]; rfl) dX9_init_150 ?_
  refine lv_iload_n hx hb dX9_init_153 rfl (lv_at hl 0 rfl) ?_
  refine lv_sipush (v := 255) hx hb dX9_init_154 (by decide) ?_
  refine va_iast hx hb hK hP hD hS 4 0 (mW_get (c := .inr (0, 256)) (i := 4) rfl) rfl (vp_in_nI (n := k) (N := 256) hk2 (by decide)) dX9_init_157 (fun H locs hP hD hS => ?_)
  rw [mW_arr (j := 4) (t := 0) (n := 256) rfl, nI_clamp (by omega), mUp_u, mUp_s, fillI_s] at hP hD
  refine lv_iinc (v := nI k + 1) (lv' := [(1, .int (nI k + 1)), (0, .ref (ad 0))]) hx hb dX9_init_158 hl (k := 0) rfl rfl (by decide) rfl (fun ls hl => ?_)
  refine lv_goto (tgt := 142) hx hb dX9_init_161 (by decide) ?_
  rw [nI_1] at hl
  exact ih (k + 1) H _ ls hk2 (by omega) hl hP hD hS
set_option maxHeartbeats 4000000 in
set_option maxRecDepth 100000 in
theorem lays_call {p : Program} {l : Launch} {e : Env} {R : Room} {s : State} {m : MethodId} {args : Array Value} {below : List Frame} {meth : Method} {c : Code} {cells slots : Nat} {Q : State → Prop} {D : va_G} {ad : Nat → Nat} {tc : Nat → ClassId} {A : Nat → Prop} {adK adV : Nat → Nat} {f : mFn} {g : mGn} {i b pc : Nat} {H : Heap} {locs : List Loc} {ls : Array Slot} (hx : p.tables.exec = Jvm.exec) (hb : c.code = cX9_init) (hml : c.maxLocals = 2) (hown : s.vm.findClass RX9 = some m.cls) (hts : ∀ w ∈ .code yX9_init cX9_init 2 none :: wR, w.before args s = true) (hK : va_K D vwCl (mTy tc) s) (hA : ∀ q : Nat, s.heap.size ≤ q → A q) (hsc : scS adK adV A s s.heap) (hi : i < 4) (hbb : b + scW.getD i 0 ≤ 2048) (hcl : cells ≤ R.cells) (hsl : slots ≤ R.slots) (hR : 7 ≤ R.frames ∧ 223 ≤ R.locals) (hd : decode cX9_init pc = .ok (.invokevirtual 46, 3)) (hls : ls.size = 2)
    (hP : va_P D vwCl (mW ad tc shM f g) H) (hD : va_D A (mW ad tc shM f g)) (hS : va_S A s.heap H locs)
    (kk : ∀ (H : Heap) (locs : List Loc), va_P D vwCl (mW ad tc shM f (mUp g 1 (laid (g 1) i b (scW.getD i 0)))) H → va_D A (mW ad tc shM f (mUp g 1 (laid (g 1) i b (scW.getD i 0)))) → va_S A s.heap H locs → W p l e R s m args below meth c H locs cells slots Q (F0 m (pc + 3) ls [])) : W p l e R s m args below meth c H locs cells slots Q (F0 m pc ls [.int (nI b), .ref (adK i), .ref (ad 0)]) := by
  obtain ⟨hR1, hR2⟩ := hR
  have hF := mFree hD hS hA
  refine va_callv (va_runV (As := [.ref (adK i), .int (nI b)]) (rest := []) ⟨hx, hb, hml, hown, hts⟩ (cX9_lays_ok l D ad tc adK adV f g i b hi hbb H.size) (cwV 2 hts (mGoodV goodR (List.mem_append_left _ (List.mem_of_getElem? (i := 6) (by decide +kernel))) (List.mem_append_left _ (List.mem_of_getElem? (i := 7) (by decide +kernel))) (List.mem_append_left _ (List.mem_of_getElem? (i := 8) (by decide +kernel))) (List.mem_append_right _ (mAt (i := 8) (by decide +kernel))) (List.mem_append_left _ (List.mem_of_getElem? (i := 9) (by decide +kernel)))) rfl rfl rfl (by decide +kernel) ⟨by show 6 + 1 ≤ _; omega, by show 8 + (4 + 11) + 200 ≤ _; omega⟩) ⟨layBlind, va_recv hK hP (ci := 12) (q0 := 0) rfl (mW_get (c := .inl (12, flM)) (i := 0) rfl), fun U hU hW => ⟨rfl, by rw [hU], by rw [hU]; exact hP, va_K.moved hW.alike hK, hD.weaken (fun _ _ _ _ => trivial), hsc.at hS hF hU hW⟩⟩ rfl rfl hls rfl (lv_room (Nat.le_of_ble_eq_true rfl)) hd ⟨hcl, hsl⟩) hS (fun q _ h => hF q h) hF (fun u t H1 locs ht hvm hpost hB hz1 hk1 hS => ?_)
  obtain ⟨hP1, hD1⟩ := hB
  rw [ht] at hP1
  exact kk H1 _ hP1 (hD1.weaken (fun _ _ _ h => hF _ h)) hS
def flL : Nat → Int32 := fillI 65535 (fun _ => 0) 2048
theorem wordI_ok : ∀ i, i < 4 → ∀ m, m < scW.getD i 0 → wordI i m = ldr (60 * i + m) := by decide +kernel
theorem laid_all : laid (laid (laid (laid flL 0 1536 (scW.getD 0 0)) 1 1596 (scW.getD 1 0)) 2 1656 (scW.getD 2 0)) 3 1716 (scW.getD 3 0) = gWords := by
  funext k
  unfold gWords va_cpy
  show laid (laid (laid (laid flL 0 1536 60) 1 1596 60) 2 1656 60) 3 1716 2 k = _
  unfold laid
  by_cases h3 : 1716 ≤ k ∧ k < 1716 + 2
  · rw [if_pos h3, if_pos (by omega)]; exact (wordI_ok 3 (by decide) _ (show k - 1716 < 2 by omega)).trans (congrArg ldr (by omega))
  rw [if_neg h3]
  by_cases h2 : 1656 ≤ k ∧ k < 1656 + 60
  · rw [if_pos h2, if_pos (by omega)]; exact (wordI_ok 2 (by decide) _ (show k - 1656 < 60 by omega)).trans (congrArg ldr (by omega))
  rw [if_neg h2]
  by_cases h1 : 1596 ≤ k ∧ k < 1596 + 60
  · rw [if_pos h1, if_pos (by omega)]; exact (wordI_ok 1 (by decide) _ (show k - 1596 < 60 by omega)).trans (congrArg ldr (by omega))
  rw [if_neg h1]
  by_cases h0 : 1536 ≤ k ∧ k < 1536 + 60
  · rw [if_pos h0, if_pos (by omega)]; exact (wordI_ok 0 (by decide) _ (show k - 1536 < 60 by omega)).trans (congrArg ldr (by omega))
  rw [if_neg h0, if_neg (by omega)]
  rfl
def adM (q0 q1 q2 q3 q4 q5 q6 q7 : Nat) : Nat → Nat := fun k => match k with
  | 0 => q0
  | 1 => q1
  | 2 => q2
  | 3 => q3
  | 4 => q4
  | 5 => q5
  | 6 => q6
  | _ => q7
def fM0 : mFn := fun k => if k = 6 then 15 else if k = 7 then 1 else if k = 9 then 1 else 0
def gM0 : mGn := fun j => if j = 1 then gWords else if j = 4 then (fun k => if k < 256 then 255 else 0) else (fun _ => 0)
theorem gM0_eq : mUp (mUp (fun _ _ => 0) 1 gWords) 4 (fillI 255 (fun _ => 0) 256) = gM0 := by
  funext j
  by_cases h4 : j = 4
  · subst h4; rw [mUp_s]; rfl
  · rw [mUp_n _ _ h4]
    by_cases h1 : j = 1
    · subst h1; rw [mUp_s]; rfl
    · rw [mUp_n _ _ h1]
      unfold gM0
      rw [if_neg h1, if_neg h4]
set_option maxHeartbeats 4000000 in
set_option maxRecDepth 100000 in
/-- x -/
theorem cX9_init_ok (l : Launch) (D : va_G) (tc : Nat → ClassId) (adK adV : Nat → Nat) (q0 : Nat) (sz : Nat) {K : mKr} (hK0 : spX9_restart [.inr 0, .inl 1] fM0 gM0 K) (hKn : ∀ r f g, K r f g → r = none ∧ K none f g) : Met l yX9_init (.code yX9_init cX9_init 2 none :: wR) ({ frames := 60, cells := 7, slots := 4948, locals := 2000 } : Room) (va_Pc [.ref q0] (fun U => U.heap.size = sz ∧ va_P D vwCl [(q0, .inr (12, [.int 0, .null, .null, .null, .null, .null, .int 0, .int 0, .int 0, .int 0, .int 0, .int 0, .int 0, .int 0, .int 0, .int 0, .int 0, .int 0, .int 0, .int 0, .int 0, .int 0, .int 0, .int 0, .int 0, .int 0, .int 0, .int 0, .int 0, .int 0, .int 0, .int 0, .int 0, .null, .null, .int 0, .int 0, .int 0, .int 0]))] U.heap ∧ va_K D vwCl (mTy tc) U ∧ va_D (fun _ => True) [(q0, .inr (12, [.int 0, .null, .null, .null, .null, .null, .int 0, .int 0, .int 0, .int 0, .int 0, .int 0, .int 0, .int 0, .int 0, .int 0, .int 0, .int 0, .int 0, .int 0, .int 0, .int 0, .int 0, .int 0, .int 0, .int 0, .int 0, .int 0, .int 0, .int 0, .int 0, .int 0, .int 0, .null, .null, .int 0, .int 0, .int 0, .int 0]))] ∧ scS adK adV (va_A [(q0, .inr (12, [.int 0, .null, .null, .null, .null, .null, .int 0, .int 0, .int 0, .int 0, .int 0, .int 0, .int 0, .int 0, .int 0, .int 0, .int 0, .int 0, .int 0, .int 0, .int 0, .int 0, .int 0, .int 0, .int 0, .int 0, .int 0, .int 0, .int 0, .int 0, .int 0, .int 0, .int 0, .null, .null, .int 0, .int 0, .int 0, .int 0]))] sz) U U.heap ∧ ∀ i, i < 4 → vk_R RX9 (scI.getD i 0) (scT.getD i "") (adK i) U)) (va_Qv (fun u : (Nat → Nat) × mFn × mGn => u.1 0 = q0 ∧ K none u.2.1 u.2.2) (fun u t => va_P D vwCl (mW u.1 tc shM u.2.1 u.2.2) t.heap ∧ va_D (va_A [(q0, .inr (12, [.int 0, .null, .null, .null, .null, .null, .int 0, .int 0, .int 0, .int 0, .int 0, .int 0, .int 0, .int 0, .int 0, .int 0, .int 0, .int 0, .int 0, .int 0, .int 0, .int 0, .int 0, .int 0, .int 0, .int 0, .int 0, .int 0, .int 0, .int 0, .int 0, .int 0, .int 0, .null, .null, .int 0, .int 0, .int 0, .int 0]))] sz) (mW u.1 tc shM u.2.1 u.2.2)) (va_A [(q0, .inr (12, [.int 0, .null, .null, .null, .null, .null, .int 0, .int 0, .int 0, .int 0, .int 0, .int 0, .int 0, .int 0, .int 0, .int 0, .int 0, .int 0, .int 0, .int 0, .int 0, .int 0, .int 0, .int 0, .int 0, .int 0, .int 0, .int 0, .int 0, .int 0, .int 0, .int 0, .int 0, .null, .null, .int 0, .int 0, .int 0, .int 0]))] sz)) 7 4948 (va_A [(q0, .inr (12, [.int 0, .null, .null, .null, .null, .null, .int 0, .int 0, .int 0, .int 0, .int 0, .int 0, .int 0, .int 0, .int 0, .int 0, .int 0, .int 0, .int 0, .int 0, .int 0, .int 0, .int 0, .int 0, .int 0, .int 0, .int 0, .int 0, .int 0, .int 0, .int 0, .int 0, .int 0, .null, .null, .int 0, .int 0, .int 0, .int 0]))] sz) := by
  refine Met.ofW (cc := cX9_init) (maxL := 2) (ret := none) (by decide +kernel) rfl ?_
  intro p e s m args below meth c s₁ B hml hv
  obtain ⟨rfl, hsz, hP, hK, hD0, hext, hstr⟩ := hv
  have hx := B.exec
  have hb := B.bytes
  have hr := B.returns
  have hts := atoms_spec (ws := .code yX9_init cX9_init 2 none :: wR) B.pre
  have hown : s.vm.findClass RX9 = some m.cls := findClass_of_methodNamed B.named
  have hlocks := B.notSynchronized
  have hin : meth.name = "<init>" := (name_of_methodNamed B.named B.method).1
  subst hsz
  have hD := hD0.self (sz := s.heap.size)
  generalize hAe : va_A [(q0, .inr (12, [.int 0, .null, .null, .null, .null, .null, .int 0, .int 0, .int 0, .int 0, .int 0, .int 0, .int 0, .int 0, .int 0, .int 0, .int 0, .int 0, .int 0, .int 0, .int 0, .int 0, .int 0, .int 0, .int 0, .int 0, .int 0, .int 0, .int 0, .int 0, .int 0, .int 0, .int 0, .null, .null, .int 0, .int 0, .int 0, .int 0]))] s.heap.size = A at hD hext ⊢
  have hA : ∀ q : Nat, s.heap.size ≤ q → A q := fun q h => by rw [← hAe]; exact Or.inr h
  have hS : va_S A s.heap s.heap [] := va_S.rf
  have hl := lv_entry ([.ref q0]) (n := 2) (Nat.le_of_ble_eq_true rfl)
  rw [lg_entry_eq]
  generalize (lg_sl ([.ref q0]) ++ List.replicate (2 - (lg_sl ([.ref q0])).length) Slot.unset).toArray = ls at hl ⊢
  have hl : lv_has ls 2 [(0, .ref q0)] := hl
  refine lv_aload_n hx hb dX9_init_0 rfl (lv_at hl 0 rfl) ?_
  refine W.objInit hx hb hown (hts (.methodLink RX9 1 objectInit) (mIn (List.mem_append_left _ (List.mem_of_getElem? (i := 1) (by decide +kernel))))) (hts (.instanceMethod objectInit) (mIn (List.mem_append_left _ (List.mem_of_getElem? (i := 2) (by decide +kernel))))) (hts (.code objectInit ⟨#[0xb1]⟩ 1 none) (mIn (List.mem_append_left _ (List.mem_of_getElem? (i := 3) (by decide +kernel))))) rfl (by rw [hml]; exact hl.1) rfl dX9_init_1 (Nat.le_of_ble_eq_true rfl) (Nat.le_of_ble_eq_true rfl) ?_
  refine W.eq (g2 := F0 m 4 ls []) rfl ?_
  refine lv_aload_n hx hb dX9_init_4 rfl (lv_at hl 0 rfl) ?_
  refine lv_sipush (v := 2048) hx hb dX9_init_5 (by decide) ?_
  refine vNewI (N := 2048) hx hb (hts (.arrayClass .int) (mIn (List.mem_append_left _ (List.mem_of_getElem? (i := 4) (by decide +kernel))))) hK hP hD hS hA (by decide) (by decide) (by decide) (by decide) (by decide) dX9_init_8 (fun q1 H hP hD hS => ?_)
  have hP : va_P D vwCl [(q0, .inr (12, [.int 0, .null, .null, .null, .null, .null, .int 0, .int 0, .int 0, .int 0, .int 0, .int 0, .int 0, .int 0, .int 0, .int 0, .int 0, .int 0, .int 0, .int 0, .int 0, .int 0, .int 0, .int 0, .int 0, .int 0, .int 0, .int 0, .int 0, .int 0, .int 0, .int 0, .int 0, .null, .null, .int 0, .int 0, .int 0, .int 0])), (q1, .inl (tc 0, 2048, .inl (fun _ => 0)))] H := hP
  have hD : va_D A [(q0, .inr (12, [.int 0, .null, .null, .null, .null, .null, .int 0, .int 0, .int 0, .int 0, .int 0, .int 0, .int 0, .int 0, .int 0, .int 0, .int 0, .int 0, .int 0, .int 0, .int 0, .int 0, .int 0, .int 0, .int 0, .int 0, .int 0, .int 0, .int 0, .int 0, .int 0, .int 0, .int 0, .null, .null, .int 0, .int 0, .int 0, .int 0])), (q1, .inl (tc 0, 2048, .inl (fun _ => 0)))] := hD
  refine W.widen (k := 1) (n := 2048) (by decide) (by decide) ?_
  refine va_putF (D := D) (ci := 12) (v := .ref q1) (ty := (.array .int)) (C := RX9) (T := TX9) (N := 39) hx hb hts (fun w h => mIn (inR_X9 w h)) tyX9 tyX9_ok nmX9 hown hK hP hD hS 0 rfl rfl 1 (by decide) (hts (.fieldLink RX9 7 "FlashBoardModel" "flash" "[I") (mIn (List.mem_append_right _ (mAt (i := 57) (by decide +kernel))))) (fun _ h9 => h9) rfl hin rfl (by decide +kernel) rfl rfl (Nat.le_of_ble_eq_true rfl) dX9_init_10 (fun H locs hP hD hS => ?_)
  have hP : va_P D vwCl [(q0, .inr (12, [.int 0, .ref q1, .null, .null, .null, .null, .int 0, .int 0, .int 0, .int 0, .int 0, .int 0, .int 0, .int 0, .int 0, .int 0, .int 0, .int 0, .int 0, .int 0, .int 0, .int 0, .int 0, .int 0, .int 0, .int 0, .int 0, .int 0, .int 0, .int 0, .int 0, .int 0, .int 0, .null, .null, .int 0, .int 0, .int 0, .int 0])), (q1, .inl (tc 0, 2048, .inl (fun _ => 0)))] H := hP
  have hD : va_D A [(q0, .inr (12, [.int 0, .ref q1, .null, .null, .null, .null, .int 0, .int 0, .int 0, .int 0, .int 0, .int 0, .int 0, .int 0, .int 0, .int 0, .int 0, .int 0, .int 0, .int 0, .int 0, .int 0, .int 0, .int 0, .int 0, .int 0, .int 0, .int 0, .int 0, .int 0, .int 0, .int 0, .int 0, .null, .null, .int 0, .int 0, .int 0, .int 0])), (q1, .inl (tc 0, 2048, .inl (fun _ => 0)))] := hD
  refine lv_aload_n hx hb dX9_init_13 rfl (lv_at hl 0 rfl) ?_
  refine lv_bipush (v := 32) hx hb dX9_init_14 (by decide) ?_
  refine vNewI (N := 32) hx hb (hts (.arrayClass .int) (mIn (List.mem_append_left _ (List.mem_of_getElem? (i := 4) (by decide +kernel))))) hK hP hD hS hA (by decide) (by decide) (by decide) (by decide) (by decide) dX9_init_16 (fun q2 H hP hD hS => ?_)
  have hP : va_P D vwCl [(q0, .inr (12, [.int 0, .ref q1, .null, .null, .null, .null, .int 0, .int 0, .int 0, .int 0, .int 0, .int 0, .int 0, .int 0, .int 0, .int 0, .int 0, .int 0, .int 0, .int 0, .int 0, .int 0, .int 0, .int 0, .int 0, .int 0, .int 0, .int 0, .int 0, .int 0, .int 0, .int 0, .int 0, .null, .null, .int 0, .int 0, .int 0, .int 0])), (q1, .inl (tc 0, 2048, .inl (fun _ => 0))), (q2, .inl (tc 0, 32, .inl (fun _ => 0)))] H := hP
  have hD : va_D A [(q0, .inr (12, [.int 0, .ref q1, .null, .null, .null, .null, .int 0, .int 0, .int 0, .int 0, .int 0, .int 0, .int 0, .int 0, .int 0, .int 0, .int 0, .int 0, .int 0, .int 0, .int 0, .int 0, .int 0, .int 0, .int 0, .int 0, .int 0, .int 0, .int 0, .int 0, .int 0, .int 0, .int 0, .null, .null, .int 0, .int 0, .int 0, .int 0])), (q1, .inl (tc 0, 2048, .inl (fun _ => 0))), (q2, .inl (tc 0, 32, .inl (fun _ => 0)))] := hD
  refine W.widen (k := 2) (n := 2080) (by decide) (by decide) ?_
  refine va_putF (D := D) (ci := 12) (v := .ref q2) (ty := (.array .int)) (C := RX9) (T := TX9) (N := 39) hx hb hts (fun w h => mIn (inR_X9 w h)) tyX9 tyX9_ok nmX9 hown hK hP hD hS 0 rfl rfl 2 (by decide) (hts (.fieldLink RX9 13 "FlashBoardModel" "buffer" "[I") (mIn (List.mem_append_right _ (mAt (i := 204) (by decide +kernel))))) (fun _ h9 => h9) rfl hin rfl (by decide +kernel) rfl rfl (Nat.le_of_ble_eq_true rfl) dX9_init_18 (fun H locs hP hD hS => ?_)
  have hP : va_P D vwCl [(q0, .inr (12, [.int 0, .ref q1, .ref q2, .null, .null, .null, .int 0, .int 0, .int 0, .int 0, .int 0, .int 0, .int 0, .int 0, .int 0, .int 0, .int 0, .int 0, .int 0, .int 0, .int 0, .int 0, .int 0, .int 0, .int 0, .int 0, .int 0, .int 0, .int 0, .int 0, .int 0, .int 0, .int 0, .null, .null, .int 0, .int 0, .int 0, .int 0])), (q1, .inl (tc 0, 2048, .inl (fun _ => 0))), (q2, .inl (tc 0, 32, .inl (fun _ => 0)))] H := hP
  have hD : va_D A [(q0, .inr (12, [.int 0, .ref q1, .ref q2, .null, .null, .null, .int 0, .int 0, .int 0, .int 0, .int 0, .int 0, .int 0, .int 0, .int 0, .int 0, .int 0, .int 0, .int 0, .int 0, .int 0, .int 0, .int 0, .int 0, .int 0, .int 0, .int 0, .int 0, .int 0, .int 0, .int 0, .int 0, .int 0, .null, .null, .int 0, .int 0, .int 0, .int 0])), (q1, .inl (tc 0, 2048, .inl (fun _ => 0))), (q2, .inl (tc 0, 32, .inl (fun _ => 0)))] := hD
  refine lv_aload_n hx hb dX9_init_21 rfl (lv_at hl 0 rfl) ?_
  refine lv_sipush (v := 1280) hx hb dX9_init_22 (by decide) ?_
  refine vNewI (N := 1280) hx hb (hts (.arrayClass .int) (mIn (List.mem_append_left _ (List.mem_of_getElem? (i := 4) (by decide +kernel))))) hK hP hD hS hA (by decide) (by decide) (by decide) (by decide) (by decide) dX9_init_25 (fun q3 H hP hD hS => ?_)
  have hP : va_P D vwCl [(q0, .inr (12, [.int 0, .ref q1, .ref q2, .null, .null, .null, .int 0, .int 0, .int 0, .int 0, .int 0, .int 0, .int 0, .int 0, .int 0, .int 0, .int 0, .int 0, .int 0, .int 0, .int 0, .int 0, .int 0, .int 0, .int 0, .int 0, .int 0, .int 0, .int 0, .int 0, .int 0, .int 0, .int 0, .null, .null, .int 0, .int 0, .int 0, .int 0])), (q1, .inl (tc 0, 2048, .inl (fun _ => 0))), (q2, .inl (tc 0, 32, .inl (fun _ => 0))), (q3, .inl (tc 0, 1280, .inl (fun _ => 0)))] H := hP
  have hD : va_D A [(q0, .inr (12, [.int 0, .ref q1, .ref q2, .null, .null, .null, .int 0, .int 0, .int 0, .int 0, .int 0, .int 0, .int 0, .int 0, .int 0, .int 0, .int 0, .int 0, .int 0, .int 0, .int 0, .int 0, .int 0, .int 0, .int 0, .int 0, .int 0, .int 0, .int 0, .int 0, .int 0, .int 0, .int 0, .null, .null, .int 0, .int 0, .int 0, .int 0])), (q1, .inl (tc 0, 2048, .inl (fun _ => 0))), (q2, .inl (tc 0, 32, .inl (fun _ => 0))), (q3, .inl (tc 0, 1280, .inl (fun _ => 0)))] := hD
  refine W.widen (k := 3) (n := 3360) (by decide) (by decide) ?_
  refine va_putF (D := D) (ci := 12) (v := .ref q3) (ty := (.array .int)) (C := RX9) (T := TX9) (N := 39) hx hb hts (fun w h => mIn (inR_X9 w h)) tyX9 tyX9_ok nmX9 hown hK hP hD hS 0 rfl rfl 3 (by decide) (hts (.fieldLink RX9 16 "FlashBoardModel" "data" "[I") (mIn (List.mem_append_right _ (mAt (i := 3) (by decide +kernel))))) (fun _ h9 => h9) rfl hin rfl (by decide +kernel) rfl rfl (Nat.le_of_ble_eq_true rfl) dX9_init_27 (fun H locs hP hD hS => ?_)
  have hP : va_P D vwCl [(q0, .inr (12, [.int 0, .ref q1, .ref q2, .ref q3, .null, .null, .int 0, .int 0, .int 0, .int 0, .int 0, .int 0, .int 0, .int 0, .int 0, .int 0, .int 0, .int 0, .int 0, .int 0, .int 0, .int 0, .int 0, .int 0, .int 0, .int 0, .int 0, .int 0, .int 0, .int 0, .int 0, .int 0, .int 0, .null, .null, .int 0, .int 0, .int 0, .int 0])), (q1, .inl (tc 0, 2048, .inl (fun _ => 0))), (q2, .inl (tc 0, 32, .inl (fun _ => 0))), (q3, .inl (tc 0, 1280, .inl (fun _ => 0)))] H := hP
  have hD : va_D A [(q0, .inr (12, [.int 0, .ref q1, .ref q2, .ref q3, .null, .null, .int 0, .int 0, .int 0, .int 0, .int 0, .int 0, .int 0, .int 0, .int 0, .int 0, .int 0, .int 0, .int 0, .int 0, .int 0, .int 0, .int 0, .int 0, .int 0, .int 0, .int 0, .int 0, .int 0, .int 0, .int 0, .int 0, .int 0, .null, .null, .int 0, .int 0, .int 0, .int 0])), (q1, .inl (tc 0, 2048, .inl (fun _ => 0))), (q2, .inl (tc 0, 32, .inl (fun _ => 0))), (q3, .inl (tc 0, 1280, .inl (fun _ => 0)))] := hD
  refine lv_aload_n hx hb dX9_init_30 rfl (lv_at hl 0 rfl) ?_
  refine lv_sipush (v := 256) hx hb dX9_init_31 (by decide) ?_
  refine vNewI (N := 256) hx hb (hts (.arrayClass .int) (mIn (List.mem_append_left _ (List.mem_of_getElem? (i := 4) (by decide +kernel))))) hK hP hD hS hA (by decide) (by decide) (by decide) (by decide) (by decide) dX9_init_34 (fun q4 H hP hD hS => ?_)
  have hP : va_P D vwCl [(q0, .inr (12, [.int 0, .ref q1, .ref q2, .ref q3, .null, .null, .int 0, .int 0, .int 0, .int 0, .int 0, .int 0, .int 0, .int 0, .int 0, .int 0, .int 0, .int 0, .int 0, .int 0, .int 0, .int 0, .int 0, .int 0, .int 0, .int 0, .int 0, .int 0, .int 0, .int 0, .int 0, .int 0, .int 0, .null, .null, .int 0, .int 0, .int 0, .int 0])), (q1, .inl (tc 0, 2048, .inl (fun _ => 0))), (q2, .inl (tc 0, 32, .inl (fun _ => 0))), (q3, .inl (tc 0, 1280, .inl (fun _ => 0))), (q4, .inl (tc 0, 256, .inl (fun _ => 0)))] H := hP
  have hD : va_D A [(q0, .inr (12, [.int 0, .ref q1, .ref q2, .ref q3, .null, .null, .int 0, .int 0, .int 0, .int 0, .int 0, .int 0, .int 0, .int 0, .int 0, .int 0, .int 0, .int 0, .int 0, .int 0, .int 0, .int 0, .int 0, .int 0, .int 0, .int 0, .int 0, .int 0, .int 0, .int 0, .int 0, .int 0, .int 0, .null, .null, .int 0, .int 0, .int 0, .int 0])), (q1, .inl (tc 0, 2048, .inl (fun _ => 0))), (q2, .inl (tc 0, 32, .inl (fun _ => 0))), (q3, .inl (tc 0, 1280, .inl (fun _ => 0))), (q4, .inl (tc 0, 256, .inl (fun _ => 0)))] := hD
  refine W.widen (k := 4) (n := 3616) (by decide) (by decide) ?_
  refine va_putF (D := D) (ci := 12) (v := .ref q4) (ty := (.array .int)) (C := RX9) (T := TX9) (N := 39) hx hb hts (fun w h => mIn (inR_X9 w h)) tyX9 tyX9_ok nmX9 hown hK hP hD hS 0 rfl rfl 4 (by decide) (hts (.fieldLink RX9 19 "FlashBoardModel" "rom" "[I") (mIn (List.mem_append_right _ (mAt (i := 91) (by decide +kernel))))) (fun _ h9 => h9) rfl hin rfl (by decide +kernel) rfl rfl (Nat.le_of_ble_eq_true rfl) dX9_init_36 (fun H locs hP hD hS => ?_)
  have hP : va_P D vwCl [(q0, .inr (12, [.int 0, .ref q1, .ref q2, .ref q3, .ref q4, .null, .int 0, .int 0, .int 0, .int 0, .int 0, .int 0, .int 0, .int 0, .int 0, .int 0, .int 0, .int 0, .int 0, .int 0, .int 0, .int 0, .int 0, .int 0, .int 0, .int 0, .int 0, .int 0, .int 0, .int 0, .int 0, .int 0, .int 0, .null, .null, .int 0, .int 0, .int 0, .int 0])), (q1, .inl (tc 0, 2048, .inl (fun _ => 0))), (q2, .inl (tc 0, 32, .inl (fun _ => 0))), (q3, .inl (tc 0, 1280, .inl (fun _ => 0))), (q4, .inl (tc 0, 256, .inl (fun _ => 0)))] H := hP
  have hD : va_D A [(q0, .inr (12, [.int 0, .ref q1, .ref q2, .ref q3, .ref q4, .null, .int 0, .int 0, .int 0, .int 0, .int 0, .int 0, .int 0, .int 0, .int 0, .int 0, .int 0, .int 0, .int 0, .int 0, .int 0, .int 0, .int 0, .int 0, .int 0, .int 0, .int 0, .int 0, .int 0, .int 0, .int 0, .int 0, .int 0, .null, .null, .int 0, .int 0, .int 0, .int 0])), (q1, .inl (tc 0, 2048, .inl (fun _ => 0))), (q2, .inl (tc 0, 32, .inl (fun _ => 0))), (q3, .inl (tc 0, 1280, .inl (fun _ => 0))), (q4, .inl (tc 0, 256, .inl (fun _ => 0)))] := hD
  refine lv_aload_n hx hb dX9_init_39 rfl (lv_at hl 0 rfl) ?_
  refine lv_bipush (v := 32) hx hb dX9_init_40 (by decide) ?_
  refine vNewZ (N := 32) hx hb (hts (.arrayClass .boolean) (mIn (List.mem_append_left _ (List.mem_of_getElem? (i := 5) (by decide +kernel))))) hK hP hD hS hA (by decide) (by decide) (by decide) (by decide) (by decide) dX9_init_42 (fun q5 H hP hD hS => ?_)
  have hP : va_P D vwCl [(q0, .inr (12, [.int 0, .ref q1, .ref q2, .ref q3, .ref q4, .null, .int 0, .int 0, .int 0, .int 0, .int 0, .int 0, .int 0, .int 0, .int 0, .int 0, .int 0, .int 0, .int 0, .int 0, .int 0, .int 0, .int 0, .int 0, .int 0, .int 0, .int 0, .int 0, .int 0, .int 0, .int 0, .int 0, .int 0, .null, .null, .int 0, .int 0, .int 0, .int 0])), (q1, .inl (tc 0, 2048, .inl (fun _ => 0))), (q2, .inl (tc 0, 32, .inl (fun _ => 0))), (q3, .inl (tc 0, 1280, .inl (fun _ => 0))), (q4, .inl (tc 0, 256, .inl (fun _ => 0))), (q5, .inl (tc 1, 32, .inl (fun _ => 0)))] H := hP
  have hD : va_D A [(q0, .inr (12, [.int 0, .ref q1, .ref q2, .ref q3, .ref q4, .null, .int 0, .int 0, .int 0, .int 0, .int 0, .int 0, .int 0, .int 0, .int 0, .int 0, .int 0, .int 0, .int 0, .int 0, .int 0, .int 0, .int 0, .int 0, .int 0, .int 0, .int 0, .int 0, .int 0, .int 0, .int 0, .int 0, .int 0, .null, .null, .int 0, .int 0, .int 0, .int 0])), (q1, .inl (tc 0, 2048, .inl (fun _ => 0))), (q2, .inl (tc 0, 32, .inl (fun _ => 0))), (q3, .inl (tc 0, 1280, .inl (fun _ => 0))), (q4, .inl (tc 0, 256, .inl (fun _ => 0))), (q5, .inl (tc 1, 32, .inl (fun _ => 0)))] := hD
  refine W.widen (k := 5) (n := 3648) (by decide) (by decide) ?_
  refine va_putF (D := D) (ci := 12) (v := .ref q5) (ty := (.array .boolean)) (C := RX9) (T := TX9) (N := 39) hx hb hts (fun w h => mIn (inR_X9 w h)) tyX9 tyX9_ok nmX9 hown hK hP hD hS 0 rfl rfl 5 (by decide) (hts (.fieldLink RX9 22 "FlashBoardModel" "isLaid" "[Z") (mIn (List.mem_append_right _ (mAt (i := 22) (by decide +kernel))))) (fun _ h9 => h9) rfl hin rfl (by decide +kernel) rfl rfl (Nat.le_of_ble_eq_true rfl) dX9_init_44 (fun H locs hP hD hS => ?_)
  have hP : va_P D vwCl [(q0, .inr (12, [.int 0, .ref q1, .ref q2, .ref q3, .ref q4, .ref q5, .int 0, .int 0, .int 0, .int 0, .int 0, .int 0, .int 0, .int 0, .int 0, .int 0, .int 0, .int 0, .int 0, .int 0, .int 0, .int 0, .int 0, .int 0, .int 0, .int 0, .int 0, .int 0, .int 0, .int 0, .int 0, .int 0, .int 0, .null, .null, .int 0, .int 0, .int 0, .int 0])), (q1, .inl (tc 0, 2048, .inl (fun _ => 0))), (q2, .inl (tc 0, 32, .inl (fun _ => 0))), (q3, .inl (tc 0, 1280, .inl (fun _ => 0))), (q4, .inl (tc 0, 256, .inl (fun _ => 0))), (q5, .inl (tc 1, 32, .inl (fun _ => 0)))] H := hP
  have hD : va_D A [(q0, .inr (12, [.int 0, .ref q1, .ref q2, .ref q3, .ref q4, .ref q5, .int 0, .int 0, .int 0, .int 0, .int 0, .int 0, .int 0, .int 0, .int 0, .int 0, .int 0, .int 0, .int 0, .int 0, .int 0, .int 0, .int 0, .int 0, .int 0, .int 0, .int 0, .int 0, .int 0, .int 0, .int 0, .int 0, .int 0, .null, .null, .int 0, .int 0, .int 0, .int 0])), (q1, .inl (tc 0, 2048, .inl (fun _ => 0))), (q2, .inl (tc 0, 32, .inl (fun _ => 0))), (q3, .inl (tc 0, 1280, .inl (fun _ => 0))), (q4, .inl (tc 0, 256, .inl (fun _ => 0))), (q5, .inl (tc 1, 32, .inl (fun _ => 0)))] := hD
  refine lv_aload_n hx hb dX9_init_47 rfl (lv_at hl 0 rfl) ?_
  refine lv_bipush (v := 15) hx hb dX9_init_48 (by decide) ?_
  refine va_put (D := D) (ci := 12) (v := .int 15) (ty := .int) (C := RX9) (T := TX9) (N := 39) hx hb hts (fun w h => mIn (inR_X9 w h)) tyX9 tyX9_ok nmX9 hown hK hP hD hS 0 rfl rfl 6 (by decide) (hts (.fieldLink RX9 26 "FlashBoardModel" "locks" "I") (mIn (List.mem_append_right _ (mAt (i := 154) (by decide +kernel))))) (fun _ h9 => h9) rfl (by decide +kernel) rfl rfl (Nat.le_of_ble_eq_true rfl) dX9_init_50 (fun H locs hP hD hS => ?_)
  have hP : va_P D vwCl [(q0, .inr (12, [.int 0, .ref q1, .ref q2, .ref q3, .ref q4, .ref q5, .int 15, .int 0, .int 0, .int 0, .int 0, .int 0, .int 0, .int 0, .int 0, .int 0, .int 0, .int 0, .int 0, .int 0, .int 0, .int 0, .int 0, .int 0, .int 0, .int 0, .int 0, .int 0, .int 0, .int 0, .int 0, .int 0, .int 0, .null, .null, .int 0, .int 0, .int 0, .int 0])), (q1, .inl (tc 0, 2048, .inl (fun _ => 0))), (q2, .inl (tc 0, 32, .inl (fun _ => 0))), (q3, .inl (tc 0, 1280, .inl (fun _ => 0))), (q4, .inl (tc 0, 256, .inl (fun _ => 0))), (q5, .inl (tc 1, 32, .inl (fun _ => 0)))] H := hP
  have hD : va_D A [(q0, .inr (12, [.int 0, .ref q1, .ref q2, .ref q3, .ref q4, .ref q5, .int 15, .int 0, .int 0, .int 0, .int 0, .int 0, .int 0, .int 0, .int 0, .int 0, .int 0, .int 0, .int 0, .int 0, .int 0, .int 0, .int 0, .int 0, .int 0, .int 0, .int 0, .int 0, .int 0, .int 0, .int 0, .int 0, .int 0, .null, .null, .int 0, .int 0, .int 0, .int 0])), (q1, .inl (tc 0, 2048, .inl (fun _ => 0))), (q2, .inl (tc 0, 32, .inl (fun _ => 0))), (q3, .inl (tc 0, 1280, .inl (fun _ => 0))), (q4, .inl (tc 0, 256, .inl (fun _ => 0))), (q5, .inl (tc 1, 32, .inl (fun _ => 0)))] := hD
  refine lv_aload_n hx hb dX9_init_53 rfl (lv_at hl 0 rfl) ?_
  refine lv_iconst (v := 1) hx hb dX9_init_54 (by decide) ?_
  refine va_put (D := D) (ci := 12) (v := .int 1) (ty := .int) (C := RX9) (T := TX9) (N := 39) hx hb hts (fun w h => mIn (inR_X9 w h)) tyX9 tyX9_ok nmX9 hown hK hP hD hS 0 rfl rfl 7 (by decide) (hts (.fieldLink RX9 30 "FlashBoardModel" "fuse" "I") (mIn (List.mem_append_right _ (mAt (i := 130) (by decide +kernel))))) (fun _ h9 => h9) rfl (by decide +kernel) rfl rfl (Nat.le_of_ble_eq_true rfl) dX9_init_55 (fun H locs hP hD hS => ?_)
  have hP : va_P D vwCl [(q0, .inr (12, [.int 0, .ref q1, .ref q2, .ref q3, .ref q4, .ref q5, .int 15, .int 1, .int 0, .int 0, .int 0, .int 0, .int 0, .int 0, .int 0, .int 0, .int 0, .int 0, .int 0, .int 0, .int 0, .int 0, .int 0, .int 0, .int 0, .int 0, .int 0, .int 0, .int 0, .int 0, .int 0, .int 0, .int 0, .null, .null, .int 0, .int 0, .int 0, .int 0])), (q1, .inl (tc 0, 2048, .inl (fun _ => 0))), (q2, .inl (tc 0, 32, .inl (fun _ => 0))), (q3, .inl (tc 0, 1280, .inl (fun _ => 0))), (q4, .inl (tc 0, 256, .inl (fun _ => 0))), (q5, .inl (tc 1, 32, .inl (fun _ => 0)))] H := hP
  have hD : va_D A [(q0, .inr (12, [.int 0, .ref q1, .ref q2, .ref q3, .ref q4, .ref q5, .int 15, .int 1, .int 0, .int 0, .int 0, .int 0, .int 0, .int 0, .int 0, .int 0, .int 0, .int 0, .int 0, .int 0, .int 0, .int 0, .int 0, .int 0, .int 0, .int 0, .int 0, .int 0, .int 0, .int 0, .int 0, .int 0, .int 0, .null, .null, .int 0, .int 0, .int 0, .int 0])), (q1, .inl (tc 0, 2048, .inl (fun _ => 0))), (q2, .inl (tc 0, 32, .inl (fun _ => 0))), (q3, .inl (tc 0, 1280, .inl (fun _ => 0))), (q4, .inl (tc 0, 256, .inl (fun _ => 0))), (q5, .inl (tc 1, 32, .inl (fun _ => 0)))] := hD
  refine lv_aload_n hx hb dX9_init_58 rfl (lv_at hl 0 rfl) ?_
  refine lv_iconst (v := 1) hx hb dX9_init_59 (by decide) ?_
  refine va_put (D := D) (ci := 12) (v := .int 1) (ty := .boolean) (C := RX9) (T := TX9) (N := 39) hx hb hts (fun w h => mIn (inR_X9 w h)) tyX9 tyX9_ok nmX9 hown hK hP hD hS 0 rfl rfl 9 (by decide) (hts (.fieldLink RX9 33 "FlashBoardModel" "isOn" "Z") (mIn (List.mem_append_right _ (mAt (i := 34) (by decide +kernel))))) (fun _ h9 => h9) rfl (by decide +kernel) rfl rfl (Nat.le_of_ble_eq_true rfl) dX9_init_60 (fun H locs hP hD hS => ?_)
  have hP : va_P D vwCl [(q0, .inr (12, [.int 0, .ref q1, .ref q2, .ref q3, .ref q4, .ref q5, .int 15, .int 1, .int 0, .int 1, .int 0, .int 0, .int 0, .int 0, .int 0, .int 0, .int 0, .int 0, .int 0, .int 0, .int 0, .int 0, .int 0, .int 0, .int 0, .int 0, .int 0, .int 0, .int 0, .int 0, .int 0, .int 0, .int 0, .null, .null, .int 0, .int 0, .int 0, .int 0])), (q1, .inl (tc 0, 2048, .inl (fun _ => 0))), (q2, .inl (tc 0, 32, .inl (fun _ => 0))), (q3, .inl (tc 0, 1280, .inl (fun _ => 0))), (q4, .inl (tc 0, 256, .inl (fun _ => 0))), (q5, .inl (tc 1, 32, .inl (fun _ => 0)))] H := hP
  have hD : va_D A [(q0, .inr (12, [.int 0, .ref q1, .ref q2, .ref q3, .ref q4, .ref q5, .int 15, .int 1, .int 0, .int 1, .int 0, .int 0, .int 0, .int 0, .int 0, .int 0, .int 0, .int 0, .int 0, .int 0, .int 0, .int 0, .int 0, .int 0, .int 0, .int 0, .int 0, .int 0, .int 0, .int 0, .int 0, .int 0, .int 0, .null, .null, .int 0, .int 0, .int 0, .int 0])), (q1, .inl (tc 0, 2048, .inl (fun _ => 0))), (q2, .inl (tc 0, 32, .inl (fun _ => 0))), (q3, .inl (tc 0, 1280, .inl (fun _ => 0))), (q4, .inl (tc 0, 256, .inl (fun _ => 0))), (q5, .inl (tc 1, 32, .inl (fun _ => 0)))] := hD
  refine lv_aload_n hx hb dX9_init_63 rfl (lv_at hl 0 rfl) ?_
  refine lv_sipush (v := 300) hx hb dX9_init_64 (by decide) ?_
  refine vNewI (N := 300) hx hb (hts (.arrayClass .int) (mIn (List.mem_append_left _ (List.mem_of_getElem? (i := 4) (by decide +kernel))))) hK hP hD hS hA (by decide) (by decide) (by decide) (by decide) (by decide) dX9_init_67 (fun q6 H hP hD hS => ?_)
  have hP : va_P D vwCl [(q0, .inr (12, [.int 0, .ref q1, .ref q2, .ref q3, .ref q4, .ref q5, .int 15, .int 1, .int 0, .int 1, .int 0, .int 0, .int 0, .int 0, .int 0, .int 0, .int 0, .int 0, .int 0, .int 0, .int 0, .int 0, .int 0, .int 0, .int 0, .int 0, .int 0, .int 0, .int 0, .int 0, .int 0, .int 0, .int 0, .null, .null, .int 0, .int 0, .int 0, .int 0])), (q1, .inl (tc 0, 2048, .inl (fun _ => 0))), (q2, .inl (tc 0, 32, .inl (fun _ => 0))), (q3, .inl (tc 0, 1280, .inl (fun _ => 0))), (q4, .inl (tc 0, 256, .inl (fun _ => 0))), (q5, .inl (tc 1, 32, .inl (fun _ => 0))), (q6, .inl (tc 0, 300, .inl (fun _ => 0)))] H := hP
  have hD : va_D A [(q0, .inr (12, [.int 0, .ref q1, .ref q2, .ref q3, .ref q4, .ref q5, .int 15, .int 1, .int 0, .int 1, .int 0, .int 0, .int 0, .int 0, .int 0, .int 0, .int 0, .int 0, .int 0, .int 0, .int 0, .int 0, .int 0, .int 0, .int 0, .int 0, .int 0, .int 0, .int 0, .int 0, .int 0, .int 0, .int 0, .null, .null, .int 0, .int 0, .int 0, .int 0])), (q1, .inl (tc 0, 2048, .inl (fun _ => 0))), (q2, .inl (tc 0, 32, .inl (fun _ => 0))), (q3, .inl (tc 0, 1280, .inl (fun _ => 0))), (q4, .inl (tc 0, 256, .inl (fun _ => 0))), (q5, .inl (tc 1, 32, .inl (fun _ => 0))), (q6, .inl (tc 0, 300, .inl (fun _ => 0)))] := hD
  refine W.widen (k := 6) (n := 3948) (by decide) (by decide) ?_
  refine va_putF (D := D) (ci := 12) (v := .ref q6) (ty := (.array .int)) (C := RX9) (T := TX9) (N := 39) hx hb hts (fun w h => mIn (inR_X9 w h)) tyX9 tyX9_ok nmX9 hown hK hP hD hS 0 rfl rfl 33 (by decide) (hts (.fieldLink RX9 37 "FlashBoardModel" "host" "[I") (mIn (List.mem_append_right _ (mAt (i := 162) (by decide +kernel))))) (fun _ h9 => h9) rfl hin rfl (by decide +kernel) rfl rfl (Nat.le_of_ble_eq_true rfl) dX9_init_69 (fun H locs hP hD hS => ?_)
  have hP : va_P D vwCl [(q0, .inr (12, [.int 0, .ref q1, .ref q2, .ref q3, .ref q4, .ref q5, .int 15, .int 1, .int 0, .int 1, .int 0, .int 0, .int 0, .int 0, .int 0, .int 0, .int 0, .int 0, .int 0, .int 0, .int 0, .int 0, .int 0, .int 0, .int 0, .int 0, .int 0, .int 0, .int 0, .int 0, .int 0, .int 0, .int 0, .ref q6, .null, .int 0, .int 0, .int 0, .int 0])), (q1, .inl (tc 0, 2048, .inl (fun _ => 0))), (q2, .inl (tc 0, 32, .inl (fun _ => 0))), (q3, .inl (tc 0, 1280, .inl (fun _ => 0))), (q4, .inl (tc 0, 256, .inl (fun _ => 0))), (q5, .inl (tc 1, 32, .inl (fun _ => 0))), (q6, .inl (tc 0, 300, .inl (fun _ => 0)))] H := hP
  have hD : va_D A [(q0, .inr (12, [.int 0, .ref q1, .ref q2, .ref q3, .ref q4, .ref q5, .int 15, .int 1, .int 0, .int 1, .int 0, .int 0, .int 0, .int 0, .int 0, .int 0, .int 0, .int 0, .int 0, .int 0, .int 0, .int 0, .int 0, .int 0, .int 0, .int 0, .int 0, .int 0, .int 0, .int 0, .int 0, .int 0, .int 0, .ref q6, .null, .int 0, .int 0, .int 0, .int 0])), (q1, .inl (tc 0, 2048, .inl (fun _ => 0))), (q2, .inl (tc 0, 32, .inl (fun _ => 0))), (q3, .inl (tc 0, 1280, .inl (fun _ => 0))), (q4, .inl (tc 0, 256, .inl (fun _ => 0))), (q5, .inl (tc 1, 32, .inl (fun _ => 0))), (q6, .inl (tc 0, 300, .inl (fun _ => 0)))] := hD
  refine lv_aload_n hx hb dX9_init_72 rfl (lv_at hl 0 rfl) ?_
  refine lv_sipush (v := 1000) hx hb dX9_init_73 (by decide) ?_
  refine vNewI (N := 1000) hx hb (hts (.arrayClass .int) (mIn (List.mem_append_left _ (List.mem_of_getElem? (i := 4) (by decide +kernel))))) hK hP hD hS hA (by decide) (by decide) (by decide) (by decide) (by decide) dX9_init_76 (fun q7 H hP hD hS => ?_)
  have hP : va_P D vwCl [(q0, .inr (12, [.int 0, .ref q1, .ref q2, .ref q3, .ref q4, .ref q5, .int 15, .int 1, .int 0, .int 1, .int 0, .int 0, .int 0, .int 0, .int 0, .int 0, .int 0, .int 0, .int 0, .int 0, .int 0, .int 0, .int 0, .int 0, .int 0, .int 0, .int 0, .int 0, .int 0, .int 0, .int 0, .int 0, .int 0, .ref q6, .null, .int 0, .int 0, .int 0, .int 0])), (q1, .inl (tc 0, 2048, .inl (fun _ => 0))), (q2, .inl (tc 0, 32, .inl (fun _ => 0))), (q3, .inl (tc 0, 1280, .inl (fun _ => 0))), (q4, .inl (tc 0, 256, .inl (fun _ => 0))), (q5, .inl (tc 1, 32, .inl (fun _ => 0))), (q6, .inl (tc 0, 300, .inl (fun _ => 0))), (q7, .inl (tc 0, 1000, .inl (fun _ => 0)))] H := hP
  have hD : va_D A [(q0, .inr (12, [.int 0, .ref q1, .ref q2, .ref q3, .ref q4, .ref q5, .int 15, .int 1, .int 0, .int 1, .int 0, .int 0, .int 0, .int 0, .int 0, .int 0, .int 0, .int 0, .int 0, .int 0, .int 0, .int 0, .int 0, .int 0, .int 0, .int 0, .int 0, .int 0, .int 0, .int 0, .int 0, .int 0, .int 0, .ref q6, .null, .int 0, .int 0, .int 0, .int 0])), (q1, .inl (tc 0, 2048, .inl (fun _ => 0))), (q2, .inl (tc 0, 32, .inl (fun _ => 0))), (q3, .inl (tc 0, 1280, .inl (fun _ => 0))), (q4, .inl (tc 0, 256, .inl (fun _ => 0))), (q5, .inl (tc 1, 32, .inl (fun _ => 0))), (q6, .inl (tc 0, 300, .inl (fun _ => 0))), (q7, .inl (tc 0, 1000, .inl (fun _ => 0)))] := hD
  refine W.widen (k := 7) (n := 4948) (by decide) (by decide) ?_
  refine va_putF (D := D) (ci := 12) (v := .ref q7) (ty := (.array .int)) (C := RX9) (T := TX9) (N := 39) hx hb hts (fun w h => mIn (inR_X9 w h)) tyX9 tyX9_ok nmX9 hown hK hP hD hS 0 rfl rfl 34 (by decide) (hts (.fieldLink RX9 40 "FlashBoardModel" "had" "[I") (mIn (List.mem_append_right _ (mAt (i := 160) (by decide +kernel))))) (fun _ h9 => h9) rfl hin rfl (by decide +kernel) rfl rfl (Nat.le_of_ble_eq_true rfl) dX9_init_78 (fun H locs hP hD hS => ?_)
  have hP : va_P D vwCl [(q0, .inr (12, [.int 0, .ref q1, .ref q2, .ref q3, .ref q4, .ref q5, .int 15, .int 1, .int 0, .int 1, .int 0, .int 0, .int 0, .int 0, .int 0, .int 0, .int 0, .int 0, .int 0, .int 0, .int 0, .int 0, .int 0, .int 0, .int 0, .int 0, .int 0, .int 0, .int 0, .int 0, .int 0, .int 0, .int 0, .ref q6, .ref q7, .int 0, .int 0, .int 0, .int 0])), (q1, .inl (tc 0, 2048, .inl (fun _ => 0))), (q2, .inl (tc 0, 32, .inl (fun _ => 0))), (q3, .inl (tc 0, 1280, .inl (fun _ => 0))), (q4, .inl (tc 0, 256, .inl (fun _ => 0))), (q5, .inl (tc 1, 32, .inl (fun _ => 0))), (q6, .inl (tc 0, 300, .inl (fun _ => 0))), (q7, .inl (tc 0, 1000, .inl (fun _ => 0)))] H := hP
  have hD : va_D A [(q0, .inr (12, [.int 0, .ref q1, .ref q2, .ref q3, .ref q4, .ref q5, .int 15, .int 1, .int 0, .int 1, .int 0, .int 0, .int 0, .int 0, .int 0, .int 0, .int 0, .int 0, .int 0, .int 0, .int 0, .int 0, .int 0, .int 0, .int 0, .int 0, .int 0, .int 0, .int 0, .int 0, .int 0, .int 0, .int 0, .ref q6, .ref q7, .int 0, .int 0, .int 0, .int 0])), (q1, .inl (tc 0, 2048, .inl (fun _ => 0))), (q2, .inl (tc 0, 32, .inl (fun _ => 0))), (q3, .inl (tc 0, 1280, .inl (fun _ => 0))), (q4, .inl (tc 0, 256, .inl (fun _ => 0))), (q5, .inl (tc 1, 32, .inl (fun _ => 0))), (q6, .inl (tc 0, 300, .inl (fun _ => 0))), (q7, .inl (tc 0, 1000, .inl (fun _ => 0)))] := hD
  have e9 : [(q0, .inr (12, [.int 0, .ref q1, .ref q2, .ref q3, .ref q4, .ref q5, .int 15, .int 1, .int 0, .int 1, .int 0, .int 0, .int 0, .int 0, .int 0, .int 0, .int 0, .int 0, .int 0, .int 0, .int 0, .int 0, .int 0, .int 0, .int 0, .int 0, .int 0, .int 0, .int 0, .int 0, .int 0, .int 0, .int 0, .ref q6, .ref q7, .int 0, .int 0, .int 0, .int 0])), (q1, .inl (tc 0, 2048, .inl (fun _ => 0))), (q2, .inl (tc 0, 32, .inl (fun _ => 0))), (q3, .inl (tc 0, 1280, .inl (fun _ => 0))), (q4, .inl (tc 0, 256, .inl (fun _ => 0))), (q5, .inl (tc 1, 32, .inl (fun _ => 0))), (q6, .inl (tc 0, 300, .inl (fun _ => 0))), (q7, .inl (tc 0, 1000, .inl (fun _ => 0)))] = mW (adM q0 q1 q2 q3 q4 q5 q6 q7) tc shM fM0 (fun _ _ => 0) := rfl
  rw [e9] at hP hD
  clear e9
  obtain ⟨ad, had⟩ : ∃ ad, ad = adM q0 q1 q2 q3 q4 q5 q6 q7 := ⟨_, rfl⟩
  have had0 : ad 0 = q0 := by rw [had]; rfl
  rw [← had] at hP hD
  rw [← had0] at hl
  clear had
  refine lv_iconst (v := 0) hx hb dX9_init_81 (by decide) ?_
  refine lv_istore_n (lv' := [(1, .int (nI 0)), (0, .ref (ad 0))]) hx hb dX9_init_82 rfl hl (by decide) rfl (fun ls hl => ?_)
  refine init_loop1 (f := fM0) (g := fun _ _ => 0) (ad := ad) hx hb hml hown hts hK hA (fun H locs ls hl hP hD hS => ?_) 2049 0 _ _ ls (Nat.zero_le _) (by decide) hl ?_ ?_ hS
  rotate_left
  · rw [fillI_0, mUp_self]; exact hP
  · rw [fillI_0, mUp_self]; exact hD
  have hlz : ls.size = 2 := hl.1
  refine lv_aload_n hx hb dX9_init_104 rfl (lv_at hl 1 rfl) ?_
  refine va_ldcS (own := RX9) (tx := scT.getD 0 "") (index := 44) (q := adK 0) hx hb hown (hstr 0 (by decide)) dX9_init_105 ?_
  refine lv_sipush (v := nI 1536) hx hb dX9_init_107 (by decide) ?_
  refine lays_call (i := 0) (b := 1536) hx hb hml hown hts hK hA hext (by decide) (by decide) (by decide) (by decide) ⟨by decide, by decide⟩ dX9_init_110 hlz hP hD hS (fun H locs hP hD hS => ?_)
  rw [mUp_u, mUp_s] at hP hD
  refine lv_aload_n hx hb dX9_init_113 rfl (lv_at hl 1 rfl) ?_
  refine va_ldcS (own := RX9) (tx := scT.getD 1 "") (index := 50) (q := adK 1) hx hb hown (hstr 1 (by decide)) dX9_init_114 ?_
  refine lv_sipush (v := nI 1596) hx hb dX9_init_116 (by decide) ?_
  refine lays_call (i := 1) (b := 1596) hx hb hml hown hts hK hA hext (by decide) (by decide) (by decide) (by decide) ⟨by decide, by decide⟩ dX9_init_119 hlz hP hD hS (fun H locs hP hD hS => ?_)
  rw [mUp_u, mUp_s] at hP hD
  refine lv_aload_n hx hb dX9_init_122 rfl (lv_at hl 1 rfl) ?_
  refine va_ldcS (own := RX9) (tx := scT.getD 2 "") (index := 52) (q := adK 2) hx hb hown (hstr 2 (by decide)) dX9_init_123 ?_
  refine lv_sipush (v := nI 1656) hx hb dX9_init_125 (by decide) ?_
  refine lays_call (i := 2) (b := 1656) hx hb hml hown hts hK hA hext (by decide) (by decide) (by decide) (by decide) ⟨by decide, by decide⟩ dX9_init_128 hlz hP hD hS (fun H locs hP hD hS => ?_)
  rw [mUp_u, mUp_s] at hP hD
  refine lv_aload_n hx hb dX9_init_131 rfl (lv_at hl 1 rfl) ?_
  refine va_ldcS (own := RX9) (tx := scT.getD 3 "") (index := 54) (q := adK 3) hx hb hown (hstr 3 (by decide)) dX9_init_132 ?_
  refine lv_sipush (v := nI 1716) hx hb dX9_init_134 (by decide) ?_
  refine lays_call (i := 3) (b := 1716) hx hb hml hown hts hK hA hext (by decide) (by decide) (by decide) (by decide) ⟨by decide, by decide⟩ dX9_init_137 hlz hP hD hS (fun H locs hP hD hS => ?_)
  rw [mUp_u, mUp_s] at hP hD
  rw [show fillI 65535 ((fun _ _ => 0 : mGn) 1) 2048 = flL from rfl, laid_all] at hP hD
  refine lv_iconst (v := 0) hx hb dX9_init_140 (by decide) ?_
  refine lv_istore_n (lv' := [(1, .int (nI 0)), (0, .ref (ad 0))]) hx hb dX9_init_141 rfl hl (by decide) rfl (fun ls hl => ?_)
  refine init_loop2 (f := fM0) (g := mUp (fun _ _ => 0) 1 gWords) (ad := ad) hx hb hml hown hts hK hA (fun H locs ls hl hP hD hS => ?_) 257 0 _ _ ls (Nat.zero_le _) (by decide) hl ?_ ?_ hS
  rotate_left
  · rw [fillI_0, mUp_self]; exact hP
  · rw [fillI_0, mUp_self]; exact hD
  rw [show fillI 255 (mUp (fun _ _ => 0) 1 gWords 4) 256 = fillI 255 (fun _ => 0) 256 from by rw [mUp_n _ _ (by decide)], gM0_eq, ← List.append_nil (mW ad tc shM fM0 gM0)] at hP hD
  refine lv_aload_n hx hb dX9_init_164 rfl (lv_at hl 1 rfl) ?_
  refine lv_iconst (v := 1) hx hb dX9_init_165 (by decide) ?_
  refine vCallR (W2 := []) (ad := ad) (sh := shM) (f := fM0) (g := gM0) (av := [.inl 1]) (j := 0) (n := 1) (rm := rmX9_restart) (K := K) (metX9_restart l D _ tc) hK0 hx hb hml hown hts hK (ci := 12) rfl (nGoodV goodR (fun w h => List.mem_append_right _ h) (List.mem_append_right _ (mAt (i := 136) (by decide +kernel))) (List.mem_append_right _ (mAt (i := 137) (by decide +kernel))) (List.mem_append_right _ (mAt (i := 138) (by decide +kernel))) (List.mem_append_right _ (mAt (i := 8) (by decide +kernel))) (List.mem_append_right _ (mAt (i := 129) (by decide +kernel)))) rfl rfl rfl (by decide +kernel) (by decide) rfl rfl hl.1 (by decide) dX9_init_166 (by decide) (by decide) hP hD hS hA (fun r f1 g1 H locs hk hP hD hS => ?_)
  obtain ⟨rfl, hk⟩ : r = none ∧ K none f1 g1 := hKn r f1 g1 hk
  rw [List.append_nil] at hP hD
  exact W.vret hx hb hr (fun t ht hW => ⟨⟨(ad, f1, g1), rfl, ⟨had0, hk⟩, by rw [ht]; exact hP, hD⟩, hS.F ht⟩) hS.2.2 dX9_init_169
