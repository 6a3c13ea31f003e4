/-! the law's world: the class, the row of its answer, the reference; calls of each inside it -/
def lwW (adC adM : Nat → Nat) (tc : Nat → ClassId) (fC : mFn) (gC : mGn) (fM : mFn) (gM : mGn) (cA : ClassId) (o : Nat) (w : Nat → Int64) : va_W := (mW adC tc shC fC gC ++ outW cA o w) ++ mW adM tc shM fM gM
def lTx : List (Nat × String × String) := [(39, "n is not 1 .. 5000", "java/lang/IllegalArgumentException"), (45, "n is not 1 .. 200000", "java/lang/IllegalArgumentException"), (63, "no such byte is kept", "java/util/NoSuchElementException"), (76, "no address of FLASH", "java/lang/IndexOutOfBoundsException"), (92, "no address of DATA", "java/lang/IndexOutOfBoundsException"), (103, "no register, SP, SREG or RAM", "java/lang/IndexOutOfBoundsException"), (117, "no address of the EEPROM", "java/lang/IndexOutOfBoundsException"), (207, "nothing is told of that", "java/util/NoSuchElementException")]
def lFix (p : Program) (s : State) (m : MethodId) (b : Nat) (c : Code) (L : Nat) (xs : Nat → Int32) (D : va_G) (tc : Nat → ClassId) (cA : ClassId) : Prop :=
  p.tables.exec = Jvm.exec ∧ c.code = code ∧ c.maxLocals = 7 ∧ s.vm.findClass RL = some m.cls ∧ (∀ w ∈ lw_tbl, w.before #[Value.ref b] s = true) ∧ va_K D vwCl (mTy tc) s ∧ va_K D vwCl [(cA, .long)] s ∧ va_X b L xs s s.heap ∧ b < s.heap.size ∧ ∀ q ∈ lTx, ∃ sa, hTw q.1 sa q.2.1 q.2.2 (fun q => s.heap.size ≤ q) s s.heap
def lSt (D : va_G) (tc : Nat → ClassId) (adC adM : Nat → Nat) (cA : ClassId) (o b i : Nat) (s : State) (N : Int) (H : Heap) (locs : List Loc) (ls : Array Slot) : Prop :=
  ∃ (fC : mFn) (gC : mGn) (fM : mFn) (gM : mGn) (w : Nat → Int64) (fc fr : mFn) (n : Int), lv_has ls 7 [(0, .ref b), (1, .ref (adC 0)), (2, .ref (adM 0)), (3, .ref o), (4, .int (nI i))] ∧ va_P D vwCl (lwW adC adM tc fC gC fM gM cA o w) H ∧ va_D (fun q => s.heap.size ≤ q) (lwW adC adM tc fC gC fM gM cA o w) ∧ va_S (fun q => s.heap.size ≤ q) s.heap H locs ∧ cI n 0 fc fC gC ∧ rI n 8000 fr fM gM ∧ fc 70 = fr 8 ∧ fc 2 = fr 9 ∧ n ≤ N
theorem vAdO {adC : Nat → Nat} {tc : Nat → ClassId} {f g f' g'} {cA : ClassId} {o : Nat} {w w' : Nat → Int64} {i : Nat} {q : Nat × va_E} (h : (mW adC tc shC f' g' ++ outW cA o w')[i]? = some q) : ∃ q', (mW adC tc shC f g ++ outW cA o w)[i]? = some q' ∧ q'.1 = q.1 := by
  by_cases hi : i < (mW adC tc shC f' g').length
  · rw [List.getElem?_append_left hi] at h
    obtain ⟨q', h1, e1⟩ := vAd (f := f) (g := g) h
    exact ⟨q', vApp1 h1, e1⟩
  · have el : (mW adC tc shC f' g').length = (mW adC tc shC f g).length := by
      unfold mW
      rfl
    rw [List.getElem?_append_right (by omega), el] at h
    refine ⟨(o, .inl (cA, 1, .inr (.inl w))), ?_, ?_⟩
    · rw [List.getElem?_append_right (by omega)]
      have hz : i - (mW adC tc shC f g).length < 1 := (List.getElem?_eq_some_iff.mp h).1
      rw [show i - (mW adC tc shC f g).length = 0 by omega]
      rfl
    · have hz : i - (mW adC tc shC f g).length < 1 := (List.getElem?_eq_some_iff.mp h).1
      rw [show i - (mW adC tc shC f g).length = 0 by omega] at h
      cases h
      rfl
theorem vRestG {D : va_G} {cl : List vw_C} {A : Nat → Prop} {W1 W1' W2 : va_W} {H H1 : Heap} (hP : va_P D cl (W1 ++ W2) H) (hD : va_D A (W1 ++ W2)) (hP1 : va_P D cl W1' H1) (had : ∀ (i : Nat) (q : Nat × va_E), W1'[i]? = some q → ∃ q', W1[i]? = some q' ∧ q'.1 = q.1) (hk : ∀ q : Nat, q < H.size → ¬ va_A W1 H.size q → H1[q]? = H[q]?) :
    va_P D cl (W1' ++ W2) H1 ∧ va_D A (W1' ++ W2) := by
  have hP2 : va_P D cl W2 H := fun k q hq => hP _ q (vApp2 hq)
  refine ⟨hP1.app (hP2.kept fun k q hq => hk _ (vx_lt hP2 hq) ?_), va_D.app ⟨fun i j q r hq hr z => ?_, fun k q hq => ?_⟩ ⟨fun i j q r hq hr z => ?_, fun k q hq => hD.2 _ q (vApp2 hq)⟩ (fun i j q r hq hr => ?_)⟩
  · rintro (⟨i, e9, hi⟩ | h)
    · exact vApart hD hi hq rfl
    · exact absurd (vx_lt hP2 hq) (Nat.not_lt.mpr h)
  · obtain ⟨q', h1, e1⟩ := had _ _ hq
    obtain ⟨r', h2, e2⟩ := had _ _ hr
    exact hD.1 i j q' r' (vApp1 h1) (vApp1 h2) (by rw [e1, e2]; exact z)
  · obtain ⟨q', h1, e1⟩ := had _ _ hq
    rw [← e1]
    exact hD.2 _ q' (vApp1 h1)
  · have h := hD.1 _ _ q r (vApp2 hq) (vApp2 hr) z
    omega
  · obtain ⟨q', h1, e1⟩ := had _ _ hq
    rw [← e1]
    exact vApart hD h1 hr
section LCL
variable {p : Program} {l : Launch} {e : Env} {s : State} {m : MethodId} {below : List Frame} {meth : Method} {c : Code} {H : Heap} {locs : List Loc} {cells slots : Nat} {Q : State → Prop} {D : va_G} {tc : Nat → ClassId} {cA : ClassId} {adC adM : Nat → Nat} {fC : mFn} {gC : mGn} {fM : mFn} {gM : mGn} {o b L : Nat} {w : Nat → Int64} {xs : Nat → Int32} {pc : Nat} {ls : Array Slot} {rest : List Value} {idx n : Nat} {y : MethodName} {bytes : ByteArray} {mx : Nat} {ret : Option FieldType} {ws ws' : List Jvm.Cond} {rm : Room}
theorem lCallC {av : List mV} {K : mKr} {sp : mSp} (hM : mMet l D vwCl adC tc shC y ws rm sp) (hsp : sp (.inr 0 :: av) fC gC K) (F : lFix p s m b c L xs D tc cA)
    (hG : GoodIn lw_tbl (wsV RL idx RX8 y ws)) (hw : ws = Jvm.Cond.code y bytes mx ret :: ws') (h1 : rm.cells = 0) (h2 : rm.slots = 0) (hy : y.cls = RX8 ∧ y.cls ≠ "java/lang/invoke/MethodHandle" ∧ y.cls ≠ "java/lang/invoke/VarHandle" ∧ (parseMethodDescriptor y.desc).map (fun d => d.parameters.length) = some n) (hR : rm.frames + 1 ≤ room_1.frames ∧ 8 + (mx + 11) + rm.locals ≤ room_1.locals)
    (hn : av.length = n) (hls : ls.size = 7) (hroom : (rest.map fun v => v.category).sum ≤ 6) (hd : decode code pc = .ok (.invokevirtual idx, 3)) (hcl : cells ≤ room_1.cells) (hsl : slots ≤ room_1.slots)
    (hP : va_P D vwCl (lwW adC adM tc fC gC fM gM cA o w) H) (hD : va_D (fun q => s.heap.size ≤ q) (lwW adC adM tc fC gC fM gM cA o w)) (hS : va_S (fun q => s.heap.size ≤ q) s.heap H locs)
    (kk : ∀ (r : Option mV) (f' : mFn) (g' : mGn) (H1 : Heap) (locs1 : List Loc), K r f' g' → va_P D vwCl (lwW adC adM tc f' g' fM gM cA o w) H1 → va_D (fun q => s.heap.size ≤ q) (lwW adC adM tc f' g' fM gM cA o w) → va_S (fun q => s.heap.size ≤ q) s.heap H1 locs1 → W p l e room_1 s m #[Value.ref b] below meth c H1 locs1 cells slots Q (F0 m (pc + 3) ls ((r.map (mE adC)).toList ++ rest))) :
    W p l e room_1 s m #[Value.ref b] below meth c H locs cells slots Q (F0 m pc ls ((av.map (mE adC)).reverse ++ .ref (adC 0) :: rest)) := by
  obtain ⟨hx, hb, hml, hown, hts, hK, -⟩ := F
  unfold lwW at hP hD kk
  rw [List.append_assoc] at hP hD
  exact vCallR (W2 := outW cA o w ++ mW adM tc shM fM gM) hM hsp hx hb hml hown hts hK (ci := 11) rfl hG hw h1 h2 hy hR (j := 0) rfl hn hls hroom hd hcl hsl hP hD hS (fun _ h => h) (fun r f' g' H1 locs1 hk hP hD hS => kk r f' g' H1 locs1 hk (by rw [List.append_assoc]; exact hP) (by rw [List.append_assoc]; exact hD) hS)
theorem lCallM {av : List mV} {K : mKr} {sp : mSp} (hM : mMet l D vwCl adM tc shM y ws rm sp) (hsp : sp (.inr 0 :: av) fM gM K) (F : lFix p s m b c L xs D tc cA)
    (hG : GoodIn lw_tbl (wsV RL idx RX9 y ws)) (hw : ws = Jvm.Cond.code y bytes mx ret :: ws') (h1 : rm.cells = 0) (h2 : rm.slots = 0) (hy : y.cls = RX9 ∧ y.cls ≠ "java/lang/invoke/MethodHandle" ∧ y.cls ≠ "java/lang/invoke/VarHandle" ∧ (parseMethodDescriptor y.desc).map (fun d => d.parameters.length) = some n) (hR : rm.frames + 1 ≤ room_1.frames ∧ 8 + (mx + 11) + rm.locals ≤ room_1.locals)
    (hn : av.length = n) (hls : ls.size = 7) (hroom : (rest.map fun v => v.category).sum ≤ 6) (hd : decode code pc = .ok (.invokevirtual idx, 3)) (hcl : cells ≤ room_1.cells) (hsl : slots ≤ room_1.slots)
    (hP : va_P D vwCl (lwW adC adM tc fC gC fM gM cA o w) H) (hD : va_D (fun q => s.heap.size ≤ q) (lwW adC adM tc fC gC fM gM cA o w)) (hS : va_S (fun q => s.heap.size ≤ q) s.heap H locs)
    (kk : ∀ (r : Option mV) (f' : mFn) (g' : mGn) (H1 : Heap) (locs1 : List Loc), K r f' g' → va_P D vwCl (lwW adC adM tc fC gC f' g' cA o w) H1 → va_D (fun q => s.heap.size ≤ q) (lwW adC adM tc fC gC f' g' cA o w) → va_S (fun q => s.heap.size ≤ q) s.heap H1 locs1 → W p l e room_1 s m #[Value.ref b] below meth c H1 locs1 cells slots Q (F0 m (pc + 3) ls ((r.map (mE adM)).toList ++ rest))) :
    W p l e room_1 s m #[Value.ref b] below meth c H locs cells slots Q (F0 m pc ls ((av.map (mE adM)).reverse ++ .ref (adM 0) :: rest)) := by
  obtain ⟨hx, hb, hml, hown, hts, hK, -⟩ := F
  unfold lwW at hP hD kk
  exact vCallR (W2 := mW adC tc shC fC gC ++ outW cA o w) hM hsp hx hb hml hown hts hK (ci := 12) rfl hG hw h1 h2 hy hR (j := 0) rfl hn hls hroom hd hcl hsl (vSwapP hP) (vSwapD hD) hS (fun _ h => h) (fun r f' g' H1 locs1 hk hP hD hS => kk r f' g' H1 locs1 hk (vSwapP hP) (vSwapD hD) hS)
theorem lCallH {as : List Value} {hh : List (Nat × Nat × Nat × Nat)} {is sa : Nat} {tx cls : String} {K : hKr} (hM : vx_Met l y ws rm (hPc D adC tc as cA o fC gC w H.size is sa tx cls) (hQc D adC tc cA o K (va_A (mW adC tc shC fC gC ++ outW cA o w) H.size)) (fun _ _ _ => False) 1 6 (va_A (mW adC tc shC fC gC ++ outW cA o w) H.size)) (hT : hTw is sa tx cls (fun q => s.heap.size ≤ q) s s.heap) (F : lFix p s m b c L xs D tc cA)
    (hG : GoodIn lw_tbl (va_wsS RL idx y ws)) (hw : ws = Jvm.Cond.codeWith y bytes mx ret hh :: ws') (h1 : rm.cells = 1) (h2 : rm.slots = 6) (hy : y.cls ≠ "java/lang/invoke/MethodHandle" ∧ y.cls ≠ "java/lang/invoke/VarHandle" ∧ (parseMethodDescriptor y.desc).map (fun d => d.parameters.length) = some n) (hR : rm.frames + 1 ≤ room_1.frames ∧ 8 + (mx + 11) + rm.locals ≤ room_1.locals)
    (hn : as.length = n) (hls : ls.size = 7) (hroom : (rest.map fun v => v.category).sum ≤ 6) (hd : decode code pc = .ok (.invokestatic idx, 3)) (hcl : cells + 1 ≤ room_1.cells) (hsl : slots + 6 ≤ room_1.slots)
    (hP : va_P D vwCl (lwW adC adM tc fC gC fM gM cA o w) H) (hD : va_D (fun q => s.heap.size ≤ q) (lwW adC adM tc fC gC fM gM cA o w)) (hS : va_S (fun q => s.heap.size ≤ q) s.heap H locs)
    (kk : ∀ (k : Int32) (f' : mFn) (g' : mGn) (w' : Nat → Int64) (H1 : Heap) (locs1 : List Loc), K k f' g' w' → va_P D vwCl (lwW adC adM tc f' g' fM gM cA o w') H1 → va_D (fun q => s.heap.size ≤ q) (lwW adC adM tc f' g' fM gM cA o w') → va_S (fun q => s.heap.size ≤ q) s.heap H1 locs1 → W p l e room_1 s m #[Value.ref b] below meth c H1 locs1 (cells + 1) (slots + 6) Q (F0 m (pc + 3) ls (.int k :: rest))) :
    W p l e room_1 s m #[Value.ref b] below meth c H locs cells slots Q (F0 m pc ls (as.reverse ++ rest)) := by
  obtain ⟨hx, hb, hml, hown, hts, hK, hK2, -⟩ := F
  unfold lwW at hP hD kk
  have hF : ∀ q, va_A (mW adC tc shC fC gC ++ outW cA o w) H.size q → s.heap.size ≤ q := by
    intro q h
    rcases h with ⟨k, e, h⟩ | h
    · exact hD.2 k (q, e) (vApp1 h)
    · exact Nat.le_trans hS.1 h
  have hr := vx_runSX (p := p) (l := l) (e := e) (R := room_1) (s := s) (m := m) (args := #[Value.ref b]) (below := below) (meth := meth) (c := c) (H := H) (locs := locs) (cells := cells) (slots := slots) (Ts := lw_tbl) (own := RL) (nL := 7) (cc := code) (As := as) (rest := rest) (g := F0 m pc ls (as.reverse ++ rest)) ⟨hx, hb, hml, hown, hts⟩ hM (vx_cwSW n hts hG hw h1 h2 hy hR) ⟨hPc_blind, fun U hU hW => ⟨rfl, by rw [hU], by rw [hU]; exact vP1 hP, va_K.moved hW.alike hK, va_K.moved hW.alike hK2, (vD1 hD).weaken (fun _ _ _ _ => trivial), hT.at hS hF hU hW⟩⟩ rfl hn hls rfl (lv_room (Nat.le_trans hroom (by decide))) hd ⟨hcl, hsl⟩
  intro T hT X
  rcases hr T hT X with ⟨v, st₀, t, T', Lc, h0, X', hL, e1, e2, ⟨⟨k, f', g', w', hv, hk, hp, hd9⟩, hz, hkk⟩, st⟩ | ⟨q, st₀, t, T', Lc, E, ce, h0, X', hL, e1, e2, hq, -⟩
  · cases hv
    rw [h0] at hz hkk
    obtain ⟨hP1, hD1⟩ := vRestG hP hD (H1 := T'.heap) (by rw [e1]; exact hp) (fun i q h => vAdO h) (fun q h1 h2 => by rw [e1]; exact hkk q h1 h2)
    obtain ⟨t2, a1, b1⟩ := kk k f' g' w' T'.heap (locs ++ Lc) hk hP1 hD1
      ⟨Nat.le_trans hS.1 (by rw [e1]; exact hz), fun q h1 h2 => by rw [e1, hkk q (Nat.lt_of_lt_of_le h1 hS.1) (fun z => h2 (hF q z))]; exact hS.2.1 q h1 h2, fun q hq => by
        rcases List.mem_append.mp hq with h | h
        · exact hS.2.2 q h
        · exact hF _ (hL q h)⟩ T' rfl X'
    exact ⟨t2, st t2 a1, b1⟩
  · exact hq.elim
theorem lTable {d lo hi : Int} {offs : Array Int} {len : Nat} {a : Int32} {tg : List (Nat × Int32)} (hx : p.tables.exec = Jvm.exec) (hb : c.code = code) (hd : decode code pc = .ok (.tableswitch d lo hi offs, len)) (hok : mTgT pc d lo offs.toList tg = true) (hsz : lo + (offs.size : Int) = hi + 1)
    (h2 : mTab a (fun t => W p l e room_1 s m #[Value.ref b] below meth c H locs cells slots Q (F0 m t ls rest)) tg) : W p l e room_1 s m #[Value.ref b] below meth c H locs cells slots Q (F0 m pc ls (.int a :: rest)) := by
  obtain ⟨t, k, h3⟩ := mTab_T _ _ _ hok h2
  rcases h3 with ⟨i, off, e1, e2, e3⟩ | ⟨e1, e2⟩
  · have hi := (List.getElem?_eq_some_iff.mp e1).1
    rw [Array.length_toList] at hi
    refine lv_tableIn hx hb hd (by omega) (by omega) (off := off) ?_ e3 k
    rw [e2, show (lo + (i : Int) - lo).toNat = i by omega, ← Array.getElem?_toList]
    exact e1
  · refine lv_tableOut hx hb hd ?_ e2 k
    rcases Int.lt_or_le a.toInt lo with z | z
    · exact Or.inl z
    · right
      rcases Int.lt_or_le hi a.toInt with y | y
      · exact y
      · exfalso
        refine e1 (a.toInt - lo).toNat ?_ (by omega)
        rw [Array.length_toList]
        omega
theorem lg_self (x : Int64) : lg_cmp x x = 0 := by
  unfold lg_cmp
  simp
end LCL
