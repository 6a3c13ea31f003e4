/-! soundness of the small machine over the machine -/
def mTy (tc : Nat → ClassId) : List (ClassId × FieldType) := [(tc 0, .int), (tc 1, .boolean)]
def mX (p : Program) (l : Launch) (e : Env) (R : Room) (s : State) (m : MethodId) (args : Array Value) (below : List Frame) (meth : Method) (c : Code) (cells slots : Nat) (Q : State → Prop) (nL : Nat) (D : va_G) (cl : List vw_C) (ad : Nat → Nat) (tc : Nat → ClassId) (sh : mSh) (A : Nat → Prop) (H0 : Heap) : Nat → mL → List mV → mFn → mGn → Prop := fun pc lv st f g =>
  ∀ (H : Heap) (locs : List Loc) (ls : Array Slot), lv_has ls nL (lv.map (fun q => (q.1, mE ad q.2))) → va_P D cl (mW ad tc sh f g) H → va_D A (mW ad tc sh f g) → va_S A H0 H locs → W p l e R s m args below meth c H locs cells slots Q (F0 m pc ls (st.map (mE ad)))
def mLen (i : Instr) (x : Nat) : Nat := match i with
  | .bipush _ => 2
  | .ldc _ => 2
  | .ldc_w _ => 3
  | .iload _ => 2
  | .aload _ => 2
  | .istore _ => 2
  | .astore _ => 2
  | .sipush _ => 3
  | .iinc _ _ => 3
  | .goto _ => 3
  | .ifCond _ _ => 3
  | .if_icmp _ _ => 3
  | .getfield _ => 3
  | .putfield _ => 3
  | .invokevirtual _ => 3
  | .invokestatic _ => 3
  | .tableswitch _ _ _ _ => x
  | .lookupswitch _ _ => x
  | _ => 1
def mTgJ (pc : Nat) (off : Int) (tg : List (Nat × Int32)) : Bool := match tg with
  | [q] => (pc : Int) + off == (q.1 : Int)
  | _ => true
def mTgT (pc : Nat) (d : Int) : Int → List Int → List (Nat × Int32) → Bool
  | _, [], [q] => (pc : Int) + d == (q.1 : Int)
  | v, o :: os, q :: r => ((pc : Int) + o == (q.1 : Int)) && (q.2.toInt == v) && mTgT pc d (v + 1) os r
  | _, _, _ => false
def mTgL (pc : Nat) (d : Int) : List (Int × Int) → List (Nat × Int32) → Bool
  | [], [q] => (pc : Int) + d == (q.1 : Int)
  | o :: os, q :: r => ((pc : Int) + o.2 == (q.1 : Int)) && (q.2.toInt == o.1) && mTgL pc d os r
  | _, _ => false
def mOkI (nL : Nat) (Ks : List (Nat × Int32)) (Fi Ci : List (Nat × Nat)) (pc : Nat) (i : Instr) (tg : List (Nat × Int32)) (cs : Int32) (x : Nat) : Bool := match i with
  | .iconst n => Int32.ofInt n == cs
  | .bipush n => (Int8.ofInt n).toInt32 == cs
  | .sipush n => (Int16.ofInt n).toInt32 == cs
  | .ldc idx => Ks[x]? == some (idx, cs)
  | .ldc_w idx => Ks[x]? == some (idx, cs)
  | .istore_n k => decide ((k : Nat) < nL)
  | .istore k => decide (k < nL)
  | .astore_n k => decide ((k : Nat) < nL)
  | .astore k => decide (k < nL)
  | .iinc k n => decide (k < nL) && (Int32.ofInt n == cs)
  | .goto off => mTgJ pc off tg
  | .ifCond _ off => mTgJ pc off tg
  | .if_icmp _ off => mTgJ pc off tg
  | .tableswitch d lo hi offs => mTgT pc d lo offs.toList tg && (lo + (offs.size : Int) == hi + 1)
  | .lookupswitch d ps => mTgL pc d ps.toList tg && (ps.toList.zip (ps.toList.drop 1)).all (fun (a, next) => a.1 < next.1)
  | .getfield idx => Fi[x]? == some (idx, 0)
  | .putfield idx => Fi[x]? == some (idx, 0)
  | .invokevirtual idx => Ci[x]? == some (idx, 0)
  | .invokestatic idx => Ci[x]? == some (idx, 1)
  | _ => true
/-- an entry against the bytes -/
def mOkE (cc : ByteArray) (nL : Nat) (Ks : List (Nat × Int32)) (Fi Ci : List (Nat × Nat)) (q : mEn) : Bool := decide (decode cc q.1 = .ok (q.2.1, mLen q.2.1 q.2.2.2.2)) && mOkI nL Ks Fi Ci q.1 q.2.1 q.2.2.1 q.2.2.2.1 q.2.2.2.2
def mOkL (cc : ByteArray) (nL : Nat) (Ks : List (Nat × Int32)) (Fi Ci : List (Nat × Nat)) (e : Nat) : Nat → List mEn → Bool
  | n, [] => n == e
  | n, q :: r => (n == q.1) && mOkE cc nL Ks Fi Ci q && mOkL cc nL Ks Fi Ci e (q.1 + mLen q.2.1 q.2.2.2.2) r
def mOkB (cc : ByteArray) (nL : Nat) (Ks : List (Nat × Int32)) (Fi Ci : List (Nat × Nat)) (bs : List mBl) : Bool := bs.all (fun b => mOkL cc nL Ks Fi Ci b.2.2 b.1 b.2.1)
/-- a field's entry, by the tables' words -/
def mFo (cl : List vw_C) (Ts : List Jvm.Cond) (own : String) (q : Nat × Nat × Nat × Nat) : Prop :=
  ∃ (C : String) (T : u_T) (N : Nat), cl[q.2.1]? = some (C, T, N) ∧ q.2.2.1 < N ∧ (∀ w ∈ u_ws C T N, w ∈ Ts) ∧ Jvm.Cond.fieldLink own q.1 (T q.2.2.1).1 (T q.2.2.1).2.1 (T q.2.2.1).2.2.1 ∈ Ts ∧
    ((q.2.2.2 = 1 ∨ q.2.2.2 = 2) → ∃ ty0 : Nat → FieldType, (∀ k, k < N → parseFieldDescriptor (T k).2.2.1 = some (ty0 k)) ∧ (∀ a, a < N → ∀ b, b < N → a ≠ b → (T a).2.1 ≠ (T b).2.1) ∧ (T q.2.2.1).2.2.2 = false ∧ parseFieldDescriptor (T q.2.2.1).2.2.1 = some (if q.2.2.2 = 2 then .boolean else .int))
/-- what a method may answer, by its type -/
def mRt (ret : Option FieldType) (r : Option mV) : Prop := match r with
  | some (.inl v) => ret ≠ none ∧ (ret = some .boolean → v = 0 ∨ v = 1)
  | some (.inr _) => False
  | none => ret = none
def mSpOf (sh : mSh) (Fd : mFt) (Cl : mCt) (bs : List mBl) (na : Nat) (ret : Option FieldType) : mSp := fun av f g kr => av.length = na ∧ mM sh Fd Cl bs av f g (fun r f g => mRt ret r ∧ kr r f g)
def mPc (D : va_G) (cl : List vw_C) (ad : Nat → Nat) (tc : Nat → ClassId) (sh : mSh) (av : List mV) (f : mFn) (g : mGn) (sz : Nat) : Array Value → State → Prop :=
  va_Pc (av.map (mE ad)) (fun U => U.heap.size = sz ∧ va_P D cl (mW ad tc sh f g) U.heap ∧ va_K D cl (mTy tc) U ∧ va_D (fun _ => True) (mW ad tc sh f g))
def mQc (D : va_G) (cl : List vw_C) (ad : Nat → Nat) (tc : Nat → ClassId) (sh : mSh) (K : mKr) (A : Nat → Prop) : Array Value → State → Outcome → State → Prop := fun _ st oc t =>
  (∃ (r : Option mV) (f : mFn) (g : mGn), oc = .returned (r.map (mE ad)) ∧ K r f g ∧ va_P D cl (mW ad tc sh f g) t.heap ∧ va_D A (mW ad tc sh f g)) ∧ va_F A st t
/-- a method does what 'sp' says -/
def mMet (l : Launch) (D : va_G) (cl : List vw_C) (ad : Nat → Nat) (tc : Nat → ClassId) (sh : mSh) (y : MethodName) (ws : List Jvm.Cond) (rm : Room) (sp : mSp) : Prop :=
  ∀ (av : List mV) (f : mFn) (g : mGn) (K : mKr) (sz : Nat), sp av f g K → Met l y ws rm (mPc D cl ad tc sh av f g sz) (mQc D cl ad tc sh K (va_A (mW ad tc sh f g) sz)) 0 0 (va_A (mW ad tc sh f g) sz)
/-- a call's entry -/
def mCo (l : Launch) (D : va_G) (cl : List vw_C) (ad : Nat → Nat) (tc : Nat → ClassId) (sh : mSh) (Ts : List Jvm.Cond) (own : String) (R : Room) (q : Nat × Nat × Nat × Nat × mSp) : Prop :=
  (q.2.1 = 0 ∧ ∃ (C : String) (T : u_T) (N : Nat) (y : MethodName) (cc : ByteArray) (mx : Nat) (ret : Option FieldType) (ws ws' : List Jvm.Cond) (rm : Room), cl[q.2.2.2.1]? = some (C, T, N) ∧ GoodIn Ts (wsV own q.1 C y ws) ∧ ws = Jvm.Cond.code y cc mx ret :: ws' ∧ rm.cells = 0 ∧ rm.slots = 0 ∧
      (y.cls = C ∧ y.cls ≠ "java/lang/invoke/MethodHandle" ∧ y.cls ≠ "java/lang/invoke/VarHandle" ∧ (parseMethodDescriptor y.desc).map (fun d => d.parameters.length) = some q.2.2.1) ∧ (rm.frames + 1 ≤ R.frames ∧ 8 + (mx + 11) + rm.locals ≤ R.locals) ∧ mMet l D cl ad tc sh y ws rm q.2.2.2.2) ∨
  (q.2.1 = 1 ∧ ∃ (y : MethodName) (cc : ByteArray) (mx : Nat) (ret : Option FieldType) (ws ws' : List Jvm.Cond) (rm : Room), GoodIn Ts (va_wsS own q.1 y ws) ∧ ws = Jvm.Cond.code y cc mx ret :: ws' ∧ rm.cells = 0 ∧ rm.slots = 0 ∧
      (y.cls ≠ "java/lang/invoke/MethodHandle" ∧ y.cls ≠ "java/lang/invoke/VarHandle" ∧ (parseMethodDescriptor y.desc).map (fun d => d.parameters.length) = some q.2.2.1) ∧ (rm.frames + 1 ≤ R.frames ∧ 8 + (mx + 11) + rm.locals ≤ R.locals) ∧ mMet l D cl ad tc sh y ws rm q.2.2.2.2)
theorem mI1_inv {st : List mV} {k : Int32 → List mV → Prop} (h : mI1 st k) : ∃ x r, st = .inl x :: r ∧ k x r := by
  unfold mI1 at h; split at h
  · exact ⟨_, _, rfl, h⟩
  · exact h.elim
theorem mI2_inv {st : List mV} {k : Int32 → Int32 → List mV → Prop} (h : mI2 st k) : ∃ x y r, st = .inl y :: .inl x :: r ∧ k x y r := by
  unfold mI2 at h; split at h
  · exact ⟨_, _, _, rfl, h⟩
  · exact h.elim
theorem mI3_inv {st : List mV} {k : Int32 → Int32 → Nat → List mV → Prop} (h : mI3 st k) : ∃ x i j r, st = .inl x :: .inl i :: .inr j :: r ∧ k x i j r := by
  unfold mI3 at h; split at h
  · exact ⟨_, _, _, _, rfl, h⟩
  · exact h.elim
theorem mJ1_inv {tg : List (Nat × Int32)} {k : Nat → Prop} (h : mJ1 tg k) : ∃ q, tg = [q] ∧ k q.1 := by
  unfold mJ1 at h; split at h
  · exact ⟨_, rfl, h⟩
  · exact h.elim
theorem mLd_inv {lv : mL} {i : Nat} {k : Int32 → Prop} (h : mLd lv i k) : ∃ x, mGet lv i = some (.inl x) ∧ k x := by
  unfold mLd at h; split at h
  · rename_i x hx; exact ⟨x, hx, h⟩
  · exact h.elim
theorem mLr_inv {lv : mL} {i : Nat} {k : Nat → Prop} (h : mLr lv i k) : ∃ x, mGet lv i = some (.inr x) ∧ k x := by
  unfold mLr at h; split at h
  · rename_i x hx; exact ⟨x, hx, h⟩
  · exact h.elim
theorem mSc_inv {sh : mSh} {j ci k : Nat} {kk : Option Nat → Prop} (h : mSc sh j ci k kk) : ∃ fl q, sh[j]? = some (.inl (ci, fl)) ∧ fl[k]? = some q ∧ kk q := by
  unfold mSc at h
  split at h
  · rename_i o ho
    obtain ⟨a, fl⟩ := o
    by_cases ha : a = ci
    · subst ha
      simp only [if_true] at h
      split at h
      · rename_i q hq; exact ⟨fl, q, ho, hq, h⟩
      · exact h.elim
    · simp only [ha, if_false] at h
  · exact h.elim
theorem mSa_inv {sh : mSh} {j t : Nat} {kk : Nat → Prop} (h : mSa sh j t kk) : ∃ n, sh[j]? = some (.inr (t, n)) ∧ kk n := by
  unfold mSa at h
  split at h
  · rename_i o ho
    obtain ⟨a, n⟩ := o
    by_cases ha : a = t
    · subst ha
      simp only [if_true] at h
      exact ⟨n, ho, h⟩
    · simp only [ha, if_false] at h
  · exact h.elim
theorem mRo_inv {sh : mSh} {j ci : Nat} {kk : Prop} (h : mRo sh j ci kk) : (∃ fl, sh[j]? = some (.inl (ci, fl))) ∧ kk := by
  unfold mRo at h
  split at h
  · rename_i o ho
    obtain ⟨a, n⟩ := o
    by_cases ha : a = ci
    · subst ha
      simp only [if_true] at h
      exact ⟨⟨n, ho⟩, h⟩
    · simp only [ha, if_false] at h
  · exact h.elim
theorem mGf_inv {Fd : mFt} {x : Nat} {kk : Nat → Nat → Nat → Prop} (h : mGf Fd x kk) : ∃ q, Fd[x]? = some q ∧ kk q.2.1 q.2.2.1 q.2.2.2 := by
  unfold mGf at h; split at h
  · rename_i q hq; exact ⟨q, hq, h⟩
  · exact h.elim
theorem mGet_mem : ∀ {lv : mL} {i : Nat} {v : mV}, mGet lv i = some v → (i, v) ∈ lv
  | [], i, v, h => by cases h
  | q :: r, i, v, h => by
    unfold mGet at h
    by_cases hq : q.1 = i
    · rw [if_pos hq] at h
      cases h
      rw [← hq]; exact List.mem_cons_self
    · rw [if_neg hq] at h
      exact List.mem_cons_of_mem _ (mGet_mem h)
theorem mE_cat (ad : Nat → Nat) (v : mV) : (mE ad v).category = 1 := by cases v <;> rfl
theorem mLv {ad : Nat → Nat} {ls : Array Slot} {nL : Nat} {lv : mL} {i : Nat} {v : mV} (h : lv_has ls nL (lv.map (fun q => (q.1, mE ad q.2)))) (hg : mGet lv i = some v) : ls[i]? = some (.val (mE ad v)) :=
  h.2.2 (i, mE ad v) (List.mem_map.mpr ⟨(i, v), mGet_mem hg, rfl⟩)
theorem mSet_map (ad : Nat → Nat) (lv : mL) (i : Nat) (v : mV) : (i, mE ad v) :: (lv.map (fun q => (q.1, mE ad q.2))).filter (fun q => !(q.1 == i) && !(q.1 + 1 == i && q.2.category == 2)) = (mSet lv i v).map (fun q => (q.1, mE ad q.2)) := by
  rw [mSet, List.map_cons, List.filter_map]
  congr 2
  apply List.filter_congr
  intro q _
  simp [mE_cat]
theorem mTab_T {pc : Nat} {d : Int} {a : Int32} {k : Nat → Prop} : ∀ (os : List Int) (v : Int) (tg : List (Nat × Int32)), mTgT pc d v os tg = true → mTab a k tg → ∃ t, k t ∧ ((∃ (i : Nat) (off : Int), os[i]? = some off ∧ a.toInt = v + (i : Int) ∧ (pc : Int) + off = (t : Int)) ∨ ((∀ i : Nat, i < os.length → a.toInt ≠ v + (i : Int)) ∧ (pc : Int) + d = (t : Int)))
  | [], v, [], h, _ => by simp [mTgT] at h
  | [], v, [q], h, hk => by
    refine ⟨q.1, hk, Or.inr ⟨fun i hi => absurd hi (Nat.not_lt_zero i), ?_⟩⟩
    simpa [mTgT] using h
  | [], v, q :: q2 :: r, h, _ => by simp [mTgT] at h
  | o :: os, v, [], h, _ => by simp [mTgT] at h
  | o :: os, v, q :: r, h, hk => by
    simp only [mTgT, Bool.and_eq_true, beq_iff_eq] at h
    obtain ⟨⟨h1, h2⟩, h3⟩ := h
    cases r with
    | nil => cases os <;> simp [mTgT] at h3
    | cons q2 r =>
      unfold mTab at hk
      by_cases hq : a = q.2
      · refine ⟨q.1, hk.1 hq, Or.inl ⟨0, o, rfl, ?_, h1⟩⟩
        rw [hq, h2]; simp
      · obtain ⟨t, ht, h4⟩ := mTab_T os (v + 1) (q2 :: r) h3 (hk.2 hq)
        refine ⟨t, ht, ?_⟩
        rcases h4 with ⟨i, off, e1, e2, e3⟩ | ⟨e1, e2⟩
        · exact Or.inl ⟨i + 1, off, by rw [List.getElem?_cons_succ]; exact e1, by rw [e2]; push_cast; omega, e3⟩
        · refine Or.inr ⟨fun i hi => ?_, e2⟩
          cases i with
          | zero => intro z; apply hq; apply Int32.toInt_inj.mp; rw [z, h2]; simp
          | succ i =>
            have := e1 i (by simpa using hi)
            push_cast
            omega
theorem mTab_L {pc : Nat} {d : Int} {a : Int32} {k : Nat → Prop} : ∀ (os : List (Int × Int)) (tg : List (Nat × Int32)), mTgL pc d os tg = true → mTab a k tg → ∃ t, k t ∧ (pc : Int) + Op.lookupswitch.offset os d a.toInt = (t : Int)
  | [], [], h, _ => by simp [mTgL] at h
  | [], [q], h, hk => by
    refine ⟨q.1, hk, ?_⟩
    simpa [mTgL, Op.lookupswitch.offset] using h
  | [], q :: q2 :: r, h, _ => by simp [mTgL] at h
  | o :: os, [], h, _ => by simp [mTgL] at h
  | o :: os, q :: r, h, hk => by
    simp only [mTgL, Bool.and_eq_true, beq_iff_eq] at h
    obtain ⟨⟨h1, h2⟩, h3⟩ := h
    cases r with
    | nil => cases os <;> simp [mTgL] at h3
    | cons q2 r =>
      obtain ⟨o1, o2⟩ := o
      unfold mTab at hk
      by_cases hq : a = q.2
      · refine ⟨q.1, hk.1 hq, ?_⟩
        rw [Op.lookupswitch.offset_cons, if_pos (by rw [hq, h2])]
        exact h1
      · obtain ⟨t, ht, h4⟩ := mTab_L os (q2 :: r) h3 (hk.2 hq)
        refine ⟨t, ht, ?_⟩
        rw [Op.lookupswitch.offset_cons, if_neg (fun z => hq (Int32.toInt_inj.mp (by rw [h2]; exact z.symm)))]
        exact h4
