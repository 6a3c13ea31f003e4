/-! a call of one side inside a bigger world, that comes back -/
section VRH
variable {p : Program} {l : Launch} {e : Env} {R : Room} {s : State} {m : MethodId} {args : Array Value} {below : List Frame} {meth : Method} {c : Code} {H : Heap} {locs : List Loc} {cells slots : Nat} {Q : State → Prop} {cc : ByteArray} {nL : Nat} {D : va_G} {cl : List vw_C} {ad : Nat → Nat} {tc : Nat → ClassId} {sh : mSh} {A : Nat → Prop} {H0 : Heap} {Ts : List Jvm.Cond} {own : String}
theorem vP1 {W1 W2 : va_W} (h : va_P D cl (W1 ++ W2) H) : va_P D cl W1 H := fun _ _ hq => h _ _ (vApp1 hq)
theorem vP2 {W1 W2 : va_W} (h : va_P D cl (W1 ++ W2) H) : va_P D cl W2 H := fun _ _ hq => h _ _ (vApp2 hq)
theorem vD1 {W1 W2 : va_W} (h : va_D A (W1 ++ W2)) : va_D A W1 := ⟨fun i j q r hq hr z => h.1 i j q r (vApp1 hq) (vApp1 hr) z, fun _ _ hq => h.2 _ _ (vApp1 hq)⟩
theorem vD2 {W1 W2 : va_W} (h : va_D A (W1 ++ W2)) : va_D A W2 := ⟨fun i j q r hq hr z => by have := h.1 _ _ q r (vApp2 hq) (vApp2 hr) z; omega, fun _ _ hq => h.2 _ _ (vApp2 hq)⟩
theorem vSwapP {W1 W2 : va_W} (h : va_P D cl (W1 ++ W2) H) : va_P D cl (W2 ++ W1) H := va_P.app (vP2 h) (vP1 h)
theorem vSwapD {W1 W2 : va_W} (h : va_D A (W1 ++ W2)) : va_D A (W2 ++ W1) := va_D.app (vD2 h) (vD1 h) (fun _ _ _ _ hq hr => (vApart h hr hq).symm)
theorem vRunR {W2 : va_W} {f : mFn} {g : mGn} {pc : Nat} {ls : Array Slot} {st0 rest : List Value} {K : mKr} {a : Array Value}
    (hr : va_Run p l e R s m args below meth c H locs cells slots 0 0 (F0 m pc ls st0) rest (mQc D cl ad tc sh K (va_A (mW ad tc sh f g) H.size) a) (va_A (mW ad tc sh f g) H.size)) (hP : va_P D cl (mW ad tc sh f g ++ W2) H) (hD : va_D A (mW ad tc sh f g ++ W2)) (hS : va_S A H0 H locs) (hAA : ∀ q, H0.size ≤ q → A q)
    (kk : ∀ (r : Option mV) (f' : mFn) (g' : mGn) (H1 : Heap) (locs1 : List Loc), K r f' g' → va_P D cl (mW ad tc sh f' g' ++ W2) H1 → va_D A (mW ad tc sh f' g' ++ W2) → va_S A H0 H1 locs1 → W p l e R s m args below meth c H1 locs1 cells slots Q (F0 m (pc + 3) ls ((r.map (mE ad)).toList ++ rest))) :
    W p l e R s m args below meth c H locs cells slots Q (F0 m pc ls st0) := by
  have hA := mFree (vD1 hD) hS hAA
  intro T hT X
  obtain ⟨v, st₀, t, T', L, h0, X', hL, e1, e2, ⟨⟨r, f', g', hv, hk, hp, hd⟩, hz, hkk⟩, st⟩ := hr T hT X
  cases hv
  rw [h0] at hz hkk
  obtain ⟨hP1, hD1⟩ := vRest hP hD (H1 := T'.heap) (by rw [e1]; exact hp) (fun q h1 h2 => by rw [e1]; exact hkk q h1 h2)
  obtain ⟨t2, a1, b1⟩ := kk r f' g' T'.heap (locs ++ L) hk hP1 hD1
    ⟨Nat.le_trans hS.1 (by rw [e1]; exact hz), fun q h1 h2 => by rw [e1, hkk q (Nat.lt_of_lt_of_le h1 hS.1) (fun z => h2 (hA q z))]; exact hS.2.1 q h1 h2, fun q hq => by
      rcases List.mem_append.mp hq with h | h
      · exact hS.2.2 q h
      · exact hA _ (hL q h)⟩ T' rfl X'
  exact ⟨t2, st t2 a1, b1⟩
/-- a virtual call of one side, by the method's contract -/
theorem vCallR {W2 : va_W} {f : mFn} {g : mGn} {pc : Nat} {ls : Array Slot} {rest : List Value} {idx n ci j : Nat} {fl : List (Option Nat)} {C : String} {T : u_T} {N : Nat} {y : MethodName} {bytes : ByteArray} {mx : Nat} {ret : Option FieldType} {ws ws' : List Jvm.Cond} {rm : Room} {av : List mV} {K : mKr} {sp : mSp}
    (hM : mMet l D cl ad tc sh y ws rm sp) (hsp : sp (.inr j :: av) f g K)
    (hx : p.tables.exec = Jvm.exec) (hb : c.code = cc) (hml : c.maxLocals = nL) (hown : s.vm.findClass own = some m.cls) (hts : ∀ w ∈ Ts, w.before args s = true) (hK : va_K D cl (mTy tc) s)
    (hc : cl[ci]? = some (C, T, N)) (hG : GoodIn Ts (wsV own idx C y ws)) (hw : ws = Jvm.Cond.code y bytes mx ret :: ws') (h1 : rm.cells = 0) (h2 : rm.slots = 0) (hy : y.cls = C ∧ y.cls ≠ "java/lang/invoke/MethodHandle" ∧ y.cls ≠ "java/lang/invoke/VarHandle" ∧ (parseMethodDescriptor y.desc).map (fun d => d.parameters.length) = some n) (hR : rm.frames + 1 ≤ R.frames ∧ 8 + (mx + 11) + rm.locals ≤ R.locals)
    (hj : sh[j]? = some (.inl (ci, fl))) (hn : av.length = n) (hls : ls.size = nL) (hroom : (rest.map fun v => v.category).sum ≤ 6) (hd : decode cc pc = .ok (.invokevirtual idx, 3)) (hcl : cells ≤ R.cells) (hsl : slots ≤ R.slots)
    (hP : va_P D cl (mW ad tc sh f g ++ W2) H) (hD : va_D A (mW ad tc sh f g ++ W2)) (hS : va_S A H0 H locs) (hAA : ∀ q, H0.size ≤ q → A q)
    (kk : ∀ (r : Option mV) (f' : mFn) (g' : mGn) (H1 : Heap) (locs1 : List Loc), K r f' g' → va_P D cl (mW ad tc sh f' g' ++ W2) H1 → va_D A (mW ad tc sh f' g' ++ W2) → va_S A H0 H1 locs1 → W p l e R s m args below meth c H1 locs1 cells slots Q (F0 m (pc + 3) ls ((r.map (mE ad)).toList ++ rest))) :
    W p l e R s m args below meth c H locs cells slots Q (F0 m pc ls ((av.map (mE ad)).reverse ++ .ref (ad j) :: rest)) :=
  vRunR (va_runV (n := n) (Ts := Ts) (As := av.map (mE ad)) (b := ad j) ⟨hx, hb, hml, hown, hts⟩ (hM _ f g K H.size hsp) (cwV n hts hG hw h1 h2 hy hR) ⟨mPc_blind, va_recv hK (vP1 hP) (ci := ci) (q0 := j) hc (mW_get hj), mPc_at hK (vP1 hP) (vD1 hD)⟩ rfl (by rw [List.length_map]; exact hn) hls rfl (lv_room (Nat.le_trans hroom (by decide))) hd ⟨hcl, hsl⟩) hP hD hS hAA kk
end VRH
