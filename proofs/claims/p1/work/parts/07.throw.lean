/-! a method that refuses: its blocks without the one that throws, and what it owes then -/
def mTh (sh : mSh) (Fd : mFt) (Cl : mCt) (bs : List mBl) (T na : Nat) (av : List mV) (f : mFn) (g : mGn) : Prop := av.length = na ∧ ∀ X, mR sh Fd Cl bs (fun _ _ _ => False) X → X T [] [] f g → X 0 (mAr 0 av) [] f g
/-- what a throw asks beside the world -/
def vTw (own : String) (is sa : Nat) (text : String) (L : List Jvm.Cond) (A : Nat → Prop) (args : Array Value) (U : State) : Prop :=
  vx_Zq Bundle.tN "UNASSIGNED_STACK" Bundle.steD A U U.heap ∧ vx_Zq Bundle.tN "SUPPRESSED_SENTINEL" Bundle.listD A U U.heap ∧ vk_R own is text sa U ∧ ∀ w ∈ L.filter (fun w => !goodWord w), w.before args U = true
/-- what is so when it has thrown -/
def vTx (D : va_G) (cl : List vw_C) (ad : Nat → Nat) (tc : Nat → ClassId) (sh : mSh) (cls : String) (f : mFn) (g : mGn) (sz : Nat) : String → State → State → Prop := fun E st t =>
  E = cls ∧ va_P D cl (mW ad tc sh f g) t.heap ∧ va_F (va_A (mW ad tc sh f g) sz) st t
set_option maxHeartbeats 4000000 in
theorem vThr_of {l : Launch} {D : va_G} {cl : List vw_C} {ad : Nat → Nat} {tc : Nat → ClassId} {sh : mSh} {Fd : mFt} {Cl : mCt} {Ks : List (Nat × Int32)} {Fi Ci : List (Nat × Nat)} {bs : List mBl} {y : MethodName} {cc : ByteArray} {nL : Nat} {ret : Option FieldType} {ws ws' : List Jvm.Cond} {rm : Room} {own : String} {na T : Nat} {cls text : String} {names : List String} {ik is ic sa : Nat}
    (hw : ws = Jvm.Cond.code y cc nL ret :: ws') (hy : plainName y.cls = true) (hys : y.cls = own) (hsh : mShOk sh = true) (hF : ∀ q ∈ Fd, mFo cl ws own q) (hKs : ∀ q ∈ Ks, Jvm.Cond.constant own q.1 q.2 ∈ ws) (hC : ∀ q ∈ Cl, mCo l D cl ad tc sh ws own rm q) (hFi : Fi = Fd.map (fun q => (q.1, 0))) (hCi : Ci = Cl.map (fun q => (q.1, q.2.1))) (hok : mOkB cc nL Ks Fi Ci bs = true)
    (hna : na ≤ nL) (hls : l.stackTraces = false) (hcls : Bundle.fit cls = true) (hnames : ∀ n ∈ names, Bundle.fit n = true) (hk : Jvm.Cond.classLink own ik cls ∈ ws) (hini : Jvm.Cond.initialized cls ∈ ws) (hat : ∀ w ∈ (vx_atS own ic cls names).filter goodWord, w ∈ ws)
    (hgood : ∀ w ∈ Jvm.Cond.classLink own ik cls :: Jvm.Cond.initialized cls :: vx_atS own ic cls names, vx_ot w = true)
    (d0 : decode cc T = .ok (.new ik, 3)) (d3 : decode cc (T + 3) = .ok (.dup, 1)) (d4 : decode cc (T + 4) = .ok (.ldc is, 2)) (d6 : decode cc (T + 6) = .ok (.invokespecial ic, 3)) (d9 : decode cc (T + 9) = .ok (.athrow, 1))
    (hRf : names.length + 3 < rm.frames) (hRl : 13 * (names.length + 1) + 43 ≤ rm.locals) (hRc : rm.cells = 1) (hRs : rm.slots = 6)
    {av : List mV} {f : mFn} {g : mGn} {sz : Nat} (hsp : mTh sh Fd Cl bs T na av f g) :
    vx_Met l y ws rm (fun a U => mPc D cl ad tc sh av f g sz a U ∧ vTw own is sa text (vx_atS own ic cls names) (va_A (mW ad tc sh f g) sz) a U) (fun _ _ _ _ => False) (vTx D cl ad tc sh cls f g sz) 1 6 (va_A (mW ad tc sh f g) sz) := by
  obtain ⟨hlen, hsp⟩ := hsp
  refine vx_ofW (cc := cc) (maxL := nL) (ret := ret) hy hw ?_
  intro p e s m args below meth c s₁ B hml hnx hv
  obtain ⟨⟨rfl, hsz, hP, hK, hD0⟩, hU, hN, hstr, hbad⟩ := hv
  have hx := B.exec
  have hb := B.bytes
  have hts := atoms_spec (ws := ws) B.pre
  have hown : s.vm.findClass own = some m.cls := by rw [← hys]; exact findClass_of_methodNamed B.named
  have hlocks := B.notSynchronized
  subst hsz
  have hD := hD0.self (sz := s.heap.size)
  unfold vTx
  generalize hAe : va_A (mW ad tc sh f g) s.heap.size = A at hD hU hN ⊢
  have hA : ∀ q : Nat, s.heap.size ≤ q → A q := fun q h => by rw [← hAe]; exact Or.inr h
  have hS : va_S A s.heap s.heap [] := va_S.rf
  have hl := lv_entry (av.map (mE ad)) (n := nL) (by rw [mLg]; omega)
  rw [lg_entry_eq]
  rw [mAr_map] at hl
  have F : mFx p s m (av.map (mE ad)).toArray c cc nL D cl tc sh ws own A s.heap := ⟨hx, hb, hml, hown, hts, hK, hsh, hA⟩
  refine hsp (mX p l e (headSpec ws rm).room s m (av.map (mE ad)).toArray below meth c 0 0 _ nL D cl ad tc sh A s.heap) ⟨fun n b hbb lv st f g hB => ?_, fun pc lv lv' st f g hsub hX H locs ls hl hP hD hS => hX H locs ls ⟨hl.1, hl.2.1, fun q hq => by obtain ⟨q0, h0, rfl⟩ := List.mem_map.mp hq; exact mLv hl (hsub q0 h0)⟩ hP hD hS⟩ ?_ s.heap [] _ hl hP hD hS
  · have ho := List.all_eq_true.mp hok b (List.mem_of_getElem? hbb)
    exact mB_sound F hF hKs hC hFi hCi (Nat.zero_le _) (Nat.zero_le _) (fun t lv st f g h => h) (fun _ _ _ _ _ _ _ h => False.elim h) (fun _ _ _ _ _ _ h => False.elim h) b.2.1 b.1 lv st f g ho hB
  · intro H locs ls hl hP hD hS
    refine vx_throwS (own := own) (cls := cls) (text := text) (names := names) (ik := ik) (is := is) (ic := ic) (sa := sa) (A := A) hx hb hls hown hcls hnames (hts _ hk) (hts _ hini) hstr ?_ hgood hU hN hS (hl.1.trans hml.symm) d0 d3 d4 d6 d9 (fun x h => (hnx x h).elim) hRf ?_ ?_ ?_ hlocks ?_ hS.2.2 (Nat.le_refl _) (Nat.le_refl _)
    · intro w hw
      by_cases hg : goodWord w = true
      · exact hts _ (hat w (List.mem_filter.mpr ⟨hw, hg⟩))
      · exact hbad w (List.mem_filter.mpr ⟨hw, by simpa using hg⟩)
    · show 0 + (13 * (names.length + 1) + 43) ≤ rm.locals
      omega
    · show 0 + 1 ≤ rm.cells
      omega
    · show 0 + 6 ≤ rm.slots
      omega
    · intro t _ h1 h2
      refine ⟨rfl, hP.kept (fun k q hk => ?_), Nat.le_trans hS.1 h1, fun q h3 h4 => ?_⟩
      · exact h2 _ (vx_lt hP hk)
      · rw [h2 q (Nat.lt_of_lt_of_le h3 hS.1)]
        exact hS.2.1 q h3 h4
set_option maxHeartbeats 4000000 in
theorem vThr_ofN {l : Launch} {D : va_G} {cl : List vw_C} {ad : Nat → Nat} {tc : Nat → ClassId} {sh : mSh} {Fd : mFt} {Cl : mCt} {Ks : List (Nat × Int32)} {Fi Ci : List (Nat × Nat)} {bs : List mBl} {y : MethodName} {cc : ByteArray} {nL : Nat} {ret : Option FieldType} {ws ws' : List Jvm.Cond} {rm : Room} {own : String} {na T : Nat} {cls Y0 text : String} {names : List String} {ik is ic ni sa : Nat} {nb : ByteArray}
    (hw : ws = Jvm.Cond.code y cc nL ret :: ws') (hy : plainName y.cls = true) (hys : y.cls = own) (hsh : mShOk sh = true) (hF : ∀ q ∈ Fd, mFo cl ws own q) (hKs : ∀ q ∈ Ks, Jvm.Cond.constant own q.1 q.2 ∈ ws) (hC : ∀ q ∈ Cl, mCo l D cl ad tc sh ws own rm q) (hFi : Fi = Fd.map (fun q => (q.1, 0))) (hCi : Ci = Cl.map (fun q => (q.1, q.2.1))) (hok : mOkB cc nL Ks Fi Ci bs = true)
    (hna : na ≤ nL) (hls : l.stackTraces = false) (hpn : plainName cls = true) (hY0 : Bundle.fit Y0 = true) (hYh : Y0 ≠ "java/lang/invoke/MethodHandle" ∧ Y0 ≠ "java/lang/invoke/VarHandle") (hch : cls ≠ "java/lang/invoke/MethodHandle" ∧ cls ≠ "java/lang/invoke/VarHandle")
    (n0 : decode nb 0 = .ok (.aload_n 0, 1)) (n1 : decode nb 1 = .ok (.aload_n 1, 1)) (n2 : decode nb 2 = .ok (.invokespecial ni, 3)) (n5 : decode nb 5 = .ok (.return_, 1)) (hnames : ∀ n ∈ names, Bundle.fit n = true) (hk : Jvm.Cond.classLink own ik cls ∈ ws) (hini : Jvm.Cond.initialized cls ∈ ws) (hat : ∀ w ∈ (atN own ic cls Y0 ni nb names).filter goodWord, w ∈ ws)
    (hgood : ∀ w ∈ Jvm.Cond.classLink own ik cls :: Jvm.Cond.initialized cls :: atN own ic cls Y0 ni nb names, vx_ot w = true)
    (d0 : decode cc T = .ok (.new ik, 3)) (d3 : decode cc (T + 3) = .ok (.dup, 1)) (d4 : decode cc (T + 4) = .ok (.ldc is, 2)) (d6 : decode cc (T + 6) = .ok (.invokespecial ic, 3)) (d9 : decode cc (T + 9) = .ok (.athrow, 1))
    (hRf : names.length + 4 < rm.frames) (hRl : 13 * (names.length + 2) + 43 ≤ rm.locals) (hRc : rm.cells = 1) (hRs : rm.slots = 6)
    {av : List mV} {f : mFn} {g : mGn} {sz : Nat} (hsp : mTh sh Fd Cl bs T na av f g) :
    vx_Met l y ws rm (fun a U => mPc D cl ad tc sh av f g sz a U ∧ vTw own is sa text (atN own ic cls Y0 ni nb names) (va_A (mW ad tc sh f g) sz) a U) (fun _ _ _ _ => False) (vTx D cl ad tc sh cls f g sz) 1 6 (va_A (mW ad tc sh f g) sz) := by
  obtain ⟨hlen, hsp⟩ := hsp
  refine vx_ofW (cc := cc) (maxL := nL) (ret := ret) hy hw ?_
  intro p e s m args below meth c s₁ B hml hnx hv
  obtain ⟨⟨rfl, hsz, hP, hK, hD0⟩, hU, hN, hstr, hbad⟩ := hv
  have hx := B.exec
  have hb := B.bytes
  have hts := atoms_spec (ws := ws) B.pre
  have hown : s.vm.findClass own = some m.cls := by rw [← hys]; exact findClass_of_methodNamed B.named
  have hlocks := B.notSynchronized
  subst hsz
  have hD := hD0.self (sz := s.heap.size)
  unfold vTx
  generalize hAe : va_A (mW ad tc sh f g) s.heap.size = A at hD hU hN ⊢
  have hA : ∀ q : Nat, s.heap.size ≤ q → A q := fun q h => by rw [← hAe]; exact Or.inr h
  have hS : va_S A s.heap s.heap [] := va_S.rf
  have hl := lv_entry (av.map (mE ad)) (n := nL) (by rw [mLg]; omega)
  rw [lg_entry_eq]
  rw [mAr_map] at hl
  have F : mFx p s m (av.map (mE ad)).toArray c cc nL D cl tc sh ws own A s.heap := ⟨hx, hb, hml, hown, hts, hK, hsh, hA⟩
  refine hsp (mX p l e (headSpec ws rm).room s m (av.map (mE ad)).toArray below meth c 0 0 _ nL D cl ad tc sh A s.heap) ⟨fun n b hbb lv st f g hB => ?_, fun pc lv lv' st f g hsub hX H locs ls hl hP hD hS => hX H locs ls ⟨hl.1, hl.2.1, fun q hq => by obtain ⟨q0, h0, rfl⟩ := List.mem_map.mp hq; exact mLv hl (hsub q0 h0)⟩ hP hD hS⟩ ?_ s.heap [] _ hl hP hD hS
  · have ho := List.all_eq_true.mp hok b (List.mem_of_getElem? hbb)
    exact mB_sound F hF hKs hC hFi hCi (Nat.zero_le _) (Nat.zero_le _) (fun t lv st f g h => h) (fun _ _ _ _ _ _ _ h => False.elim h) (fun _ _ _ _ _ _ h => False.elim h) b.2.1 b.1 lv st f g ho hB
  · intro H locs ls hl hP hD hS
    refine vx_throwN (own := own) (cls := cls) (Y0 := Y0) (text := text) (names := names) (ik := ik) (is := is) (ic := ic) (ni := ni) (nb := nb) (sa := sa) (A := A) hx hb hls hown hpn hY0 hnames hYh hch n0 n1 n2 n5 (hts _ hk) (hts _ hini) hstr ?_ hgood hU hN hS (hl.1.trans hml.symm) d0 d3 d4 d6 d9 (fun x h => (hnx x h).elim) hRf ?_ ?_ ?_ hlocks ?_ hS.2.2 (Nat.le_refl _) (Nat.le_refl _)
    · intro w hw
      by_cases hg : goodWord w = true
      · exact hts _ (hat w (List.mem_filter.mpr ⟨hw, hg⟩))
      · exact hbad w (List.mem_filter.mpr ⟨hw, by simpa using hg⟩)
    · show 0 + (13 * (names.length + 2) + 43) ≤ rm.locals
      omega
    · show 0 + 1 ≤ rm.cells
      omega
    · show 0 + 6 ≤ rm.slots
      omega
    · intro t _ h1 h2
      refine ⟨rfl, hP.kept (fun k q hk => ?_), Nat.le_trans hS.1 h1, fun q h3 h4 => ?_⟩
      · exact h2 _ (vx_lt hP hk)
      · rw [h2 q (Nat.lt_of_lt_of_le h3 hS.1)]
        exact hS.2.1 q h3 h4
