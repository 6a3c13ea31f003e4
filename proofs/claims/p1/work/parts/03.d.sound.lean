section MS1
variable {p : Program} {l : Launch} {e : Env} {R : Room} {s : State} {m : MethodId} {args : Array Value} {below : List Frame} {meth : Method} {c : Code} {cells slots : Nat} {Q : State → Prop} {cc : ByteArray} {nL : Nat} {D : va_G} {cl : List vw_C} {ad : Nat → Nat} {tc : Nat → ClassId} {sh : mSh} {A : Nat → Prop} {H0 : Heap} {Ts : List Jvm.Cond} {own : String}

/-- what the method's own rows share -/
def mFx (p : Program) (s : State) (m : MethodId) (args : Array Value) (c : Code) (cc : ByteArray) (nL : Nat) (D : va_G) (cl : List vw_C) (tc : Nat → ClassId) (sh : mSh) (Ts : List Jvm.Cond) (own : String) (A : Nat → Prop) (H0 : Heap) : Prop :=
  p.tables.exec = Jvm.exec ∧ c.code = cc ∧ c.maxLocals = nL ∧ s.vm.findClass own = some m.cls ∧ (∀ w ∈ Ts, w.before args s = true) ∧ va_K D cl (mTy tc) s ∧ mShOk sh = true ∧ (∀ q, H0.size ≤ q → A q)
theorem mCall {ls : Array Slot} {st0 rest : List Value} {pc : Nat} {H : Heap} {locs : List Loc} {K : mKr} {A1 : Nat → Prop} {a : Array Value}
    (hr : va_Run p l e R s m args below meth c H locs cells slots 0 0 (F0 m pc ls st0) rest (mQc D cl ad tc sh K A1 a) A1) (hS : va_S A H0 H locs) (hA : ∀ q, A1 q → A q)
    (kk : ∀ (r : Option mV) (f : mFn) (g : mGn) (H1 : Heap) (locs1 : List Loc), K r f g → va_P D cl (mW ad tc sh f g) H1 → va_D A (mW ad tc sh f g) → va_S A H0 H1 locs1 → W p l e R s m args below meth c H1 locs1 cells slots Q (F0 m (pc + 3) ls ((r.map (mE ad)).toList ++ rest))) :
    W p l e R s m args below meth c H locs cells slots Q (F0 m pc ls st0) := by
  intro T hT X
  obtain ⟨v, st₀, t, T', L, h0, X', hL, e1, e2, ⟨⟨r, f, g, hv, hk, hp, hd⟩, hz, hkk⟩, st⟩ := hr T hT X
  cases hv
  rw [h0] at hz hkk
  obtain ⟨t2, a1, b1⟩ := kk r f g T'.heap (locs ++ L) hk (by rw [e1]; exact hp) (hd.weaken (fun _ _ _ h => hA _ h))
    ⟨Nat.le_trans hS.1 (by rw [e1]; exact hz), fun q h1 h2 => by rw [e1, hkk q (Nat.lt_of_lt_of_le h1 hS.1) (fun z => h2 (hA q z))]; exact hS.2.1 q h1 h2, fun q hq => by
      rcases List.mem_append.mp hq with h | h
      · exact hS.2.2 q h
      · exact hA _ (hL q h)⟩ T' rfl X'
  exact ⟨t2, st t2 a1, b1⟩
theorem mPc_blind {av : List mV} {f : mFn} {g : mGn} {sz : Nat} : FrameBlind (mPc D cl ad tc sh av f g sz) := fun a U g mk q => by
  obtain ⟨q0, q1, qP, qK, qD⟩ := q
  exact ⟨q0, q1, qP, va_K.moved (u := U) (U := U.calling g mk a) (Vm.Alike.refl U.vm) qK, qD⟩
theorem mPc_at {av : List mV} {f : mFn} {g : mGn} {H : Heap} (hK : va_K D cl (mTy tc) s) (hP : va_P D cl (mW ad tc sh f g) H) (hD : va_D A (mW ad tc sh f g)) : ∀ U : State, U.heap = H → s.WarmedH U.vm → mPc D cl ad tc sh av f g H.size (av.map (mE ad)).toArray U := by
  intro U hU hW
  exact ⟨rfl, by rw [hU], by rw [hU]; exact hP, va_K.moved hW.alike hK, hD.weaken (fun _ _ _ _ => trivial)⟩
theorem mFree {f : mFn} {g : mGn} {H : Heap} {locs : List Loc} (hD : va_D A (mW ad tc sh f g)) (hS : va_S A H0 H locs) (hA : ∀ q, H0.size ≤ q → A q) : ∀ q, va_A (mW ad tc sh f g) H.size q → A q := by
  intro q h
  rcases h with ⟨k, e, h⟩ | h
  · exact hD.2 k (q, e) h
  · exact hA q (Nat.le_trans hS.1 h)
theorem mMap_sum (ad : Nat → Nat) : ∀ st : List mV, ((st.map (mE ad)).map fun v => v.category).sum = st.length
  | [] => rfl
  | v :: r => by rw [List.map_cons, List.map_cons, List.sum_cons, mMap_sum ad r, mE_cat, List.length_cons]; omega
theorem mPush_map (ad : Nat → Nat) (r : Option mV) (st : List mV) : (r.map (mE ad)).toList ++ st.map (mE ad) = (mPush r st).map (mE ad) := by cases r <;> rfl
theorem mCallV {q : Nat × Nat × Nat × Nat × mSp} (F : mFx p s m args c cc nL D cl tc sh Ts own A H0) (ho : mCo l D cl ad tc sh Ts own R q) (h0 : q.2.1 = 0) {pc : Nat} {lv : mL} {st r : List mV} {f : mFn} {g : mGn} {j : Nat} {fl : List (Option Nat)} (hd : decode cc pc = .ok (.invokevirtual q.1, 3)) (hcl : cells ≤ R.cells) (hsl : slots ≤ R.slots)
    (hst : st.drop q.2.2.1 = .inr j :: r) (hj : sh[j]? = some (.inl (q.2.2.2.1, fl))) (hr : r.length ≤ 8) {K : mKr} (hsp : q.2.2.2.2 (.inr j :: (st.take q.2.2.1).reverse) f g K) (hkn : ∀ v f' g', K v f' g' → (mX p l e R s m args below meth c cells slots Q nL D cl ad tc sh A H0) (pc + 3) lv (mPush v r) f' g') : (mX p l e R s m args below meth c cells slots Q nL D cl ad tc sh A H0) pc lv st f g := by
  obtain ⟨hx, hb, hml, hown, hts, hK, hok, hAA⟩ := F
  rcases ho with ⟨-, C, T, N, y, bytes, mx, ret, ws, ws', rm, hc, hG, hw, h1, h2, hy, hR, hM⟩ | ⟨z, -⟩
  · intro H locs ls hl hP hD hS
    have hlen : q.2.2.1 ≤ st.length := by
      rcases Nat.lt_or_ge st.length q.2.2.1 with z | z
      · rw [List.drop_eq_nil_of_le (Nat.le_of_lt z)] at hst; cases hst
      · exact z
    have hA1 := mFree hD hS hAA
    have hsplit : st.map (mE ad) = (((st.take q.2.2.1).reverse).map (mE ad)).reverse ++ .ref (ad j) :: r.map (mE ad) := by
      rw [← List.map_reverse, List.reverse_reverse]
      conv => lhs; rw [← List.take_append_drop q.2.2.1 st, hst]
      rw [List.map_append]; rfl
    refine mCall (D := D) (cl := cl) (ad := ad) (tc := tc) (sh := sh) (st0 := st.map (mE ad)) (rest := r.map (mE ad)) (K := K) (A1 := va_A (mW ad tc sh f g) H.size) (a := (Value.ref (ad j) :: ((st.take q.2.2.1).reverse).map (mE ad)).toArray) ?_ hS hA1 (fun v f' g' H1 locs1 hk hP1 hD1 hS1 => ?_)
    · exact va_runV (n := q.2.2.1) (Ts := Ts) ⟨hx, hb, hml, hown, hts⟩ (hM _ f g K H.size hsp) (cwV q.2.2.1 hts hG hw h1 h2 hy hR) ⟨mPc_blind, va_recv hK hP (ci := q.2.2.2.1) (q0 := j) hc (mW_get hj), mPc_at hK hP hD⟩ rfl (by rw [List.length_map, List.length_reverse, List.length_take]; omega) (by show ls.size = nL; exact hl.1) hsplit (lv_room (by rw [mMap_sum]; exact hr)) hd ⟨hcl, hsl⟩
    · rw [mPush_map]
      exact hkn v f' g' hk H1 locs1 ls hl hP1 hD1 hS1
  · rw [h0] at z; cases z
theorem mCallS {q : Nat × Nat × Nat × Nat × mSp} (F : mFx p s m args c cc nL D cl tc sh Ts own A H0) (ho : mCo l D cl ad tc sh Ts own R q) (h0 : q.2.1 = 1) {pc : Nat} {lv : mL} {st : List mV} {f : mFn} {g : mGn} (hd : decode cc pc = .ok (.invokestatic q.1, 3)) (hcl : cells ≤ R.cells) (hsl : slots ≤ R.slots)
    (hlen : q.2.2.1 ≤ st.length) (hr : (st.drop q.2.2.1).length ≤ 8) {K : mKr} (hsp : q.2.2.2.2 ((st.take q.2.2.1).reverse) f g K) (hkn : ∀ v f' g', K v f' g' → (mX p l e R s m args below meth c cells slots Q nL D cl ad tc sh A H0) (pc + 3) lv (mPush v (st.drop q.2.2.1)) f' g') : (mX p l e R s m args below meth c cells slots Q nL D cl ad tc sh A H0) pc lv st f g := by
  obtain ⟨hx, hb, hml, hown, hts, hK, hok, hAA⟩ := F
  rcases ho with ⟨z, -⟩ | ⟨-, y, bytes, mx, ret, ws, ws', rm, hG, hw, h1, h2, hy, hR, hM⟩
  · rw [h0] at z; cases z
  · intro H locs ls hl hP hD hS
    have hA1 := mFree hD hS hAA
    have hsplit : st.map (mE ad) = (((st.take q.2.2.1).reverse).map (mE ad)).reverse ++ (st.drop q.2.2.1).map (mE ad) := by
      rw [← List.map_reverse, List.reverse_reverse]
      conv => lhs; rw [← List.take_append_drop q.2.2.1 st]
      rw [List.map_append]
    refine mCall (D := D) (cl := cl) (ad := ad) (tc := tc) (sh := sh) (st0 := st.map (mE ad)) (rest := (st.drop q.2.2.1).map (mE ad)) (K := K) (A1 := va_A (mW ad tc sh f g) H.size) (a := (((st.take q.2.2.1).reverse).map (mE ad)).toArray) ?_ hS hA1 (fun v f' g' H1 locs1 hk hP1 hD1 hS1 => ?_)
    · exact va_runS (n := q.2.2.1) (Ts := Ts) ⟨hx, hb, hml, hown, hts⟩ (hM _ f g K H.size hsp) (va_cwS q.2.2.1 hts hG hw h1 h2 hy hR) ⟨mPc_blind, mPc_at hK hP hD⟩ rfl (by rw [List.length_map, List.length_reverse, List.length_take]; omega) (by show ls.size = nL; exact hl.1) hsplit (lv_room (by rw [mMap_sum]; exact hr)) hd ⟨hcl, hsl⟩
    · rw [mPush_map]
      exact hkn v f' g' hk H1 locs1 ls hl hP1 hD1 hS1
end MS1
