/-! a call that throws, as its caller sees it -/
section VCX
variable {p : Program} {l : Launch} {e : Env} {R : Room} {s : State} {m : MethodId} {args : Array Value} {below : List Frame} {meth : Method} {c : Code} {H : Heap} {locs : List Loc} {cells slots : Nat} {Q : State → Prop} {cc : ByteArray} {nL : Nat} {D : va_G} {cl : List vw_C} {ad : Nat → Nat} {tc : Nat → ClassId} {sh : mSh} {A : Nat → Prop} {H0 : Heap} {Ts : List Jvm.Cond} {own : String}
theorem vRunX {f : mFn} {g : mGn} {cls : String} {pc : Nat} {ls : Array Slot} {st0 rest : List Value} (hr : vx_Run p l e R s m args below meth c H locs cells slots 1 6 (F0 m pc ls st0) rest (fun _ _ _ => False) (vTx D cl ad tc sh cls f g H.size) (va_A (mW ad tc sh f g) H.size)) (hS : va_S A H0 H locs) (hA : ∀ q, va_A (mW ad tc sh f g) H.size q → A q)
    (kx : ∀ (ce : Cell) (q9 : Addr) (H1 : Heap) (locs1 : List Loc), va_P D cl (mW ad tc sh f g) H1 → H.size ≤ H1.size → (∀ q : Nat, q < H.size → ¬ va_A (mW ad tc sh f g) H.size q → H1[q]? = H[q]?) → va_S A H0 H1 locs1 → H1[q9]? = some ce → ce.vm = .none → s.vm.findClass cls = some ce.cls → vx_W p l e R s m args below meth c H1 locs1 (cells + 1) (slots + 6) Q (F0 m pc ls rest) q9) :
    W p l e R s m args below meth c H locs cells slots Q (F0 m pc ls st0) := by
  intro T hT X
  rcases hr T hT X with ⟨v, st₀, t, T', L, h0, X', hL, e1, e2, hq, st⟩ | ⟨q, st₀, t, T', L, E, ce, h0, X', hL, e1, e2, ⟨rfl, hp, hF⟩, hce, hcv, hcl, st⟩
  · exact hq.elim
  · obtain ⟨k1, k2, k3⟩ := vx_keep h0 e1 hS (fun q _ h => hA q h) hA hL hF
    obtain ⟨t2, a1, b1⟩ := kx ce q T'.heap (locs ++ L) (by rw [e1]; exact hp) k1 k2 k3 (by rw [e1]; exact hce) hcv hcl T' rfl X'
    exact ⟨t2, st.trans a1, b1⟩
theorem vCallX {f : mFn} {g : mGn} {pc : Nat} {ls : Array Slot} {rest : List Value} {idx n ci j : Nat} {fl : List (Option Nat)} {C ownT text cls : String} {T : u_T} {N : Nat} {L : List Jvm.Cond} {is sa : Nat} {y : MethodName} {bytes : ByteArray} {mx : Nat} {ret : Option FieldType} {ws ws' : List Jvm.Cond} {rm : Room} {av : List mV}
    (hM : vx_Met l y ws rm (fun a U => mPc D cl ad tc sh (.inr j :: av) f g H.size a U ∧ vTw ownT is sa text L (va_A (mW ad tc sh f g) H.size) a U) (fun _ _ _ _ => False) (vTx D cl ad tc sh cls f g H.size) 1 6 (va_A (mW ad tc sh f g) H.size))
    (hx : p.tables.exec = Jvm.exec) (hb : c.code = cc) (hml : c.maxLocals = nL) (hown : s.vm.findClass own = some m.cls) (hts : ∀ w ∈ Ts, w.before args s = true) (hK : va_K D cl (mTy tc) s)
    (hc : cl[ci]? = some (C, T, N)) (hG : GoodIn Ts (wsV own idx C y ws)) (hw : ws = Jvm.Cond.code y bytes mx ret :: ws') (h1 : rm.cells = 1) (h2 : rm.slots = 6) (hy : y.cls = C ∧ y.cls ≠ "java/lang/invoke/MethodHandle" ∧ y.cls ≠ "java/lang/invoke/VarHandle" ∧ (parseMethodDescriptor y.desc).map (fun d => d.parameters.length) = some n) (hR : rm.frames + 1 ≤ R.frames ∧ 8 + (mx + 11) + rm.locals ≤ R.locals)
    (hj : sh[j]? = some (.inl (ci, fl))) (hn : av.length = n) (hls : ls.size = nL) (hroom : (rest.map fun v => v.category).sum ≤ 6) (hd : decode cc pc = .ok (.invokevirtual idx, 3)) (hcl : cells + 1 ≤ R.cells) (hsl : slots + 6 ≤ R.slots)
    (hsub : ∀ w ∈ L.filter (fun w => !goodWord w), w ∈ vTb cls) (hU : vx_Zq Bundle.tN "UNASSIGNED_STACK" Bundle.steD A s s.heap) (hN : vx_Zq Bundle.tN "SUPPRESSED_SENTINEL" Bundle.listD A s s.heap) (hZ : vk_R ownT is text sa s) (hB : ∀ w ∈ vTb cls, va_Nw w s)
    (hP : va_P D cl (mW ad tc sh f g) H) (hD : va_D A (mW ad tc sh f g)) (hS : va_S A s.heap H locs) (hAA : ∀ q, s.heap.size ≤ q → A q)
    (kx : ∀ (ce : Cell) (q9 : Addr) (H1 : Heap) (locs1 : List Loc), va_P D cl (mW ad tc sh f g) H1 → H.size ≤ H1.size → (∀ q : Nat, q < H.size → ¬ va_A (mW ad tc sh f g) H.size q → H1[q]? = H[q]?) → va_S A s.heap H1 locs1 → H1[q9]? = some ce → ce.vm = .none → s.vm.findClass cls = some ce.cls → vx_W p l e R s m args below meth c H1 locs1 (cells + 1) (slots + 6) Q (F0 m pc ls rest) q9) :
    W p l e R s m args below meth c H locs cells slots Q (F0 m pc ls ((av.map (mE ad)).reverse ++ .ref (ad j) :: rest)) := by
  have hA1 := mFree hD hS hAA
  refine vRunX (vx_runV (n := n) (Ts := Ts) (As := av.map (mE ad)) (b := ad j) ⟨hx, hb, hml, hown, hts⟩ hM (cwV n hts hG hw h1 h2 hy hR) ⟨vTw_blind hsub, va_recv hK hP (ci := ci) (q0 := j) hc (mW_get hj), fun U hUH hW => ⟨mPc_at hK hP hD U hUH hW, vTw_at hsub hU hN hZ hB hS hA1 U _ hUH hW⟩⟩ rfl (by rw [List.length_map]; exact hn) hls rfl (lv_room (Nat.le_trans hroom (by decide))) hd ⟨hcl, hsl⟩) hS hA1 kx
end VCX
