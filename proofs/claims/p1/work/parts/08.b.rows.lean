/-! rows for constructors: a new array of the known class; Arrays.fill of one row inside a bigger world -/
section VNI
variable {p : Program} {l : Launch} {e : Env} {R : Room} {s : State} {m : MethodId} {args : Array Value} {below : List Frame} {meth : Method} {c : Code} {H : Heap} {locs : List Loc} {cells slots : Nat} {Q : State → Prop} {cc : ByteArray} {pc : Nat} {ls : Array Slot} {rest : List Value} {D : va_G} {cl : List vw_C} {tc : Nat → ClassId} {A : Nat → Prop} {ws : va_W} {H0 : Heap}
theorem vNewI (hx : p.tables.exec = Jvm.exec) (hb : c.code = cc) (harr : (Jvm.Cond.arrayClass .int).before args s = true) (hK : va_K D cl (mTy tc) s) (hP : va_P D cl ws H) (hD : va_D A ws) (hS : va_S A H0 H locs) (hA : ∀ q, H0.size ≤ q → A q)
    {n : Int32} {N : Nat} (hn : ¬ n < 0) (hN : n.toNatClampNeg = N) (hbytes : N * componentBytes .int ≤ 536870912) (hcells : cells + 1 ≤ R.cells) (hslots : slots + N ≤ R.slots) (hdg : decode cc pc = .ok (.newarray .int, 2))
    (kk : ∀ (q : Nat) (H1 : Heap), va_P D cl (ws ++ [(q, .inl (tc 0, N, .inl fun _ => 0))]) H1 → va_D A (ws ++ [(q, .inl (tc 0, N, .inl fun _ => 0))]) → va_S A H0 H1 locs → W p l e R s m args below meth c H1 locs (cells + 1) (slots + N) Q (F0 m (pc + 2) ls (.ref q :: rest))) : W p l e R s m args below meth c H locs cells slots Q (F0 m pc ls (.int n :: rest)) := by
  refine va_newa (atype := .int) (ty := .int) (N' := N) (a0 := (N, .inl fun _ => 0)) hx hb harr rfl hK hP hD hS hA (fun cA => by rw [vp_cell_i]; rfl) hn hN hbytes hcells hslots hdg (fun q cA H1 hK1 hP1 hD1 hS1 => ?_)
  have e : cA = tc 0 := Option.some.inj (((hK1.2 2 _ rfl).2 : va_RA s cA .int).symm.trans ((hK.2 0 _ rfl).2 : va_RA s (tc 0) .int))
  subst e
  exact kk q H1 hP1 hD1 hS1
theorem vNewZ (hx : p.tables.exec = Jvm.exec) (hb : c.code = cc) (harr : (Jvm.Cond.arrayClass .boolean).before args s = true) (hK : va_K D cl (mTy tc) s) (hP : va_P D cl ws H) (hD : va_D A ws) (hS : va_S A H0 H locs) (hA : ∀ q, H0.size ≤ q → A q)
    {n : Int32} {N : Nat} (hn : ¬ n < 0) (hN : n.toNatClampNeg = N) (hbytes : N * componentBytes .boolean ≤ 536870912) (hcells : cells + 1 ≤ R.cells) (hslots : slots + N ≤ R.slots) (hdg : decode cc pc = .ok (.newarray .boolean, 2))
    (kk : ∀ (q : Nat) (H1 : Heap), va_P D cl (ws ++ [(q, .inl (tc 1, N, .inl fun _ => 0))]) H1 → va_D A (ws ++ [(q, .inl (tc 1, N, .inl fun _ => 0))]) → va_S A H0 H1 locs → W p l e R s m args below meth c H1 locs (cells + 1) (slots + N) Q (F0 m (pc + 2) ls (.ref q :: rest))) : W p l e R s m args below meth c H locs cells slots Q (F0 m pc ls (.int n :: rest)) := by
  refine va_newa (atype := .boolean) (ty := .boolean) (N' := N) (a0 := (N, .inl fun _ => 0)) hx hb harr rfl hK hP hD hS hA (fun cA => by rw [vp_cell_i]; rfl) hn hN hbytes hcells hslots hdg (fun q cA H1 hK1 hP1 hD1 hS1 => ?_)
  have e : cA = tc 1 := Option.some.inj (((hK1.2 2 _ rfl).2 : va_RA s cA .boolean).symm.trans ((hK.2 1 _ rfl).2 : va_RA s (tc 1) .boolean))
  subst e
  exact kk q H1 hP1 hD1 hS1
end VNI
/-! Arrays.fill(row, v) where the world is that row alone -/
def shF (N : Nat) : mSh := [.inr (0, N)]
def spFill (N : Nat) : mSp := mSpOf (shF N) [] [] bsJ7_fill_53178 2 none
abbrev wkFill (wn : List Jvm.Cond) : List Jvm.Cond := .code yJ7_fill_53178 cJ7_fill_53178 4 none :: wn
theorem metFill (l : Launch) (D : va_G) (ad : Nat → Nat) (tc : Nat → ClassId) (wn : List Jvm.Cond) (N : Nat) : mMet l D vwCl ad tc (shF N) yJ7_fill_53178 (wkFill wn) rmJ7_fill_53178 (spFill N) :=
  mMet_of (own := RJ7) (ret := none) (Fd := []) (Cl := []) (Ks := []) (Fi := []) (Ci := []) (bs := bsJ7_fill_53178) rfl (by decide +kernel) rfl rfl
    (fun _ h => absurd h List.not_mem_nil) (fun _ h => absurd h List.not_mem_nil) (fun _ h => absurd h List.not_mem_nil) rfl rfl (by decide +kernel) (by decide) (by decide)
set_option maxRecDepth 100000 in
theorem sqFill {N : Nat} (hN : N < 2 ^ 31) {f : mFn} {g : mGn} {K : mKr} {x1 : Int32} (hK : K none f (mUp g 0 (fun k => if k < N then x1 else g 0 k))) : spFill N [.inr 0, .inl x1] f g K := by
  refine ⟨rfl, fun X hX => ?_⟩
  have r5 : ∀ (t i : Nat) (g' : mGn), i ≤ N → N - i < t → g' = mUp g 0 (fun k => if k < i then x1 else g 0 k) → X 5 [(0, .inr 0), (1, .inl x1), (2, .inl (nI i)), (3, .inl (nI N))] [] f g' := by
    intro t
    induction t with
    | zero => intro i g' h1 hm _; exact absurd hm (Nat.not_lt_zero _)
    | succ t ih =>
      intro i g' h1 hm hg
      refine hX.1 1 _ rfl _ _ _ _ ?_
      refine And.intro (fun c => ?_) (fun c => ?_)
      · refine hX.2 _ _ [] _ _ _ mW0 ?_
        refine hX.1 2 _ rfl _ _ _ _ ?_
        have e : i = N := by
          rcases Nat.lt_or_ge i N with z | z
          · exact absurd c (nI_ge z hN)
          · omega
        subst e
        rw [hg]
        exact And.intro mRt_v hK
      · have h3 : i < N := by
          rcases Nat.lt_or_ge i N with z | z
          · exact z
          · exact absurd (nI_le z (by omega)) c
        refine And.intro (vp_in_nI h3 hN) ?_
        refine hX.2 _ _ [(0, .inr 0), (1, .inl _), (2, .inl (nI i + 1)), (3, .inl _)] _ _ _ (mWc rfl (mWc rfl (mWc rfl (mWc rfl mW0)))) ?_
        rw [nI_1]
        refine ih (i + 1) _ h3 (by omega) ?_
        rw [hg, nI_clamp (by omega)]
        funext j
        by_cases hj : j = 0
        · subst hj
          rw [mUp_s, mUp_s, mUp_s]
          funext k
          by_cases hk : k = i
          · subst hk; rw [pk_us, if_pos (Nat.lt_succ_self _)]
          · rw [pk_un hk]
            by_cases h9 : k < i
            · rw [if_pos h9, if_pos (by omega)]
            · rw [if_neg h9, if_neg (by omega)]
        · rw [mUp_n _ _ hj, mUp_n _ _ hj, mUp_n _ _ hj]
  refine hX.1 0 _ rfl _ _ _ _ ?_
  refine hX.2 _ _ [(0, .inr 0), (1, .inl _), (2, .inl 0), (3, .inl (Int32.ofNat N))] _ _ _ (mWc rfl (mWc rfl (mWc rfl (mWc rfl mW0)))) ?_
  refine r5 (N + 1) 0 g (Nat.zero_le _) (by omega) ?_
  funext j
  by_cases hj : j = 0
  · subst hj; rw [mUp_s]; funext k; rw [if_neg (Nat.not_lt_zero k)]
  · rw [mUp_n _ _ hj]
section VFL
variable {p : Program} {l : Launch} {e : Env} {R : Room} {s : State} {m : MethodId} {args : Array Value} {below : List Frame} {meth : Method} {c : Code} {H : Heap} {locs : List Loc} {cells slots : Nat} {Q : State → Prop} {cc : ByteArray} {nL : Nat} {D : va_G} {tc : Nat → ClassId} {A : Nat → Prop} {H0 : Heap} {Ts : List Jvm.Cond} {own : String}
/-- a static call of one side, by the method's contract, inside a bigger world -/
theorem vCallS {cl : List vw_C} {ad : Nat → Nat} {sh : mSh} {W2 : va_W} {f : mFn} {g : mGn} {pc : Nat} {ls : Array Slot} {rest : List Value} {idx n : Nat} {y : MethodName} {bytes : ByteArray} {mx : Nat} {ret : Option FieldType} {ws ws' : List Jvm.Cond} {rm : Room} {av : List mV} {K : mKr} {sp : mSp}
    (hM : mMet l D cl ad tc sh y ws rm sp) (hsp : sp av f g K)
    (hx : p.tables.exec = Jvm.exec) (hb : c.code = cc) (hml : c.maxLocals = nL) (hown : s.vm.findClass own = some m.cls) (hts : ∀ w ∈ Ts, w.before args s = true) (hK : va_K D cl (mTy tc) s)
    (hG : GoodIn Ts (va_wsS own idx y ws)) (hw : ws = Jvm.Cond.code y bytes mx ret :: ws') (h1 : rm.cells = 0) (h2 : rm.slots = 0) (hy : y.cls ≠ "java/lang/invoke/MethodHandle" ∧ y.cls ≠ "java/lang/invoke/VarHandle" ∧ (parseMethodDescriptor y.desc).map (fun d => d.parameters.length) = some n) (hR : rm.frames + 1 ≤ R.frames ∧ 8 + (mx + 11) + rm.locals ≤ R.locals)
    (hn : av.length = n) (hls : ls.size = nL) (hroom : (rest.map fun v => v.category).sum ≤ 6) (hd : decode cc pc = .ok (.invokestatic idx, 3)) (hcl : cells ≤ R.cells) (hsl : slots ≤ R.slots)
    (hP : va_P D cl (mW ad tc sh f g ++ W2) H) (hD : va_D A (mW ad tc sh f g ++ W2)) (hS : va_S A H0 H locs) (hAA : ∀ q, H0.size ≤ q → A q)
    (kk : ∀ (r : Option mV) (f' : mFn) (g' : mGn) (H1 : Heap) (locs1 : List Loc), K r f' g' → va_P D cl (mW ad tc sh f' g' ++ W2) H1 → va_D A (mW ad tc sh f' g' ++ W2) → va_S A H0 H1 locs1 → W p l e R s m args below meth c H1 locs1 cells slots Q (F0 m (pc + 3) ls ((r.map (mE ad)).toList ++ rest))) :
    W p l e R s m args below meth c H locs cells slots Q (F0 m pc ls ((av.map (mE ad)).reverse ++ rest)) :=
  vRunR (va_runS (n := n) (Ts := Ts) (As := av.map (mE ad)) ⟨hx, hb, hml, hown, hts⟩ (hM _ f g K H.size hsp) (va_cwS n hts hG hw h1 h2 hy hR) ⟨mPc_blind, mPc_at hK (vP1 hP) (vD1 hD)⟩ rfl (by rw [List.length_map]; exact hn) hls rfl (lv_room (Nat.le_trans hroom (by decide))) hd ⟨hcl, hsl⟩) hP hD hS hAA kk
theorem vFill {W2 : va_W} {wn : List Jvm.Cond} {c0 : Jvm.Cond} {a N : Nat} {g0 : Nat → Int32} {pc : Nat} {ls : Array Slot} {idx : Nat} {x : Int32} {rest : List Value} (hN : N < 2 ^ 31) (hgn : wn.all goodWord = true)
    (hx : p.tables.exec = Jvm.exec) (hb : c.code = cc) (hml : c.maxLocals = nL) (hown : s.vm.findClass own = some m.cls) (hts : ∀ w ∈ c0 :: wn, w.before args s = true) (hK : va_K D vwCl (mTy tc) s)
    (m1 : Jvm.Cond.methodLink own idx yJ7_fill_53178 ∈ wn) (m2 : Jvm.Cond.static yJ7_fill_53178 ∈ wn) (m3 : Jvm.Cond.initialized yJ7_fill_53178.cls ∈ wn) (m4 : Jvm.Cond.code yJ7_fill_53178 cJ7_fill_53178 4 none ∈ wn) (hR : 1 ≤ R.frames ∧ 23 ≤ R.locals)
    (hls : ls.size = nL) (hroom : (rest.map fun v => v.category).sum ≤ 6) (hd : decode cc pc = .ok (.invokestatic idx, 3)) (hcl : cells ≤ R.cells) (hsl : slots ≤ R.slots)
    (hP : va_P D vwCl ((a, .inl (tc 0, N, .inl g0)) :: W2) H) (hD : va_D A ((a, .inl (tc 0, N, .inl g0)) :: W2)) (hS : va_S A H0 H locs) (hAA : ∀ q, H0.size ≤ q → A q)
    (kk : ∀ (H1 : Heap) (locs1 : List Loc), va_P D vwCl ((a, .inl (tc 0, N, .inl (fun k => if k < N then x else g0 k))) :: W2) H1 → va_D A ((a, .inl (tc 0, N, .inl (fun k => if k < N then x else g0 k))) :: W2) → va_S A H0 H1 locs1 → W p l e R s m args below meth c H1 locs1 cells slots Q (F0 m (pc + 3) ls rest)) :
    W p l e R s m args below meth c H locs cells slots Q (F0 m pc ls (.int x :: .ref a :: rest)) := by
  refine vCallS (ad := fun _ => a) (sh := shF N) (f := fun _ => 0) (g := fun _ => g0) (av := [.inr 0, .inl x]) (K := fun r f' g' => r = none ∧ g' 0 = fun k => if k < N then x else g0 k) (n := 2) (W2 := W2) (rm := rmJ7_fill_53178) (metFill l D _ tc wn N) (sqFill hN ⟨rfl, by rw [mUp_s]⟩) hx hb hml hown hts hK (mGoodS hgn m1 m2 m3 m4) rfl rfl rfl (by decide +kernel) ⟨hR.1, hR.2⟩ rfl hls hroom hd hcl hsl hP hD hS hAA (fun r f' g' H1 locs1 hk hP1 hD1 hS1 => ?_)
  obtain ⟨rfl, hg⟩ := hk
  have e : mW (fun _ => a) tc (shF N) f' g' = [(a, .inl (tc 0, N, .inl (g' 0)))] := rfl
  rw [e, hg] at hP1 hD1
  exact kk H1 locs1 hP1 hD1 hS1
end VFL
