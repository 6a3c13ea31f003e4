/-! THE SMALL MACHINE: a steady world of fixed shape (objects whose fields are ints or lasting references, int and boolean rows), its methods as blocks of instructions; what a method does, as a predicate over ints alone. -/
abbrev mV : Type := Int32 ⊕ Nat
abbrev mL : Type := List (Nat × mV)
abbrev mFn : Type := Nat → Int32
abbrev mGn : Type := Nat → Nat → Int32
abbrev mSh : Type := List ((Nat × List (Option Nat)) ⊕ (Nat × Nat))
abbrev mKr : Type := Option mV → mFn → mGn → Prop
abbrev mSp : Type := List mV → mFn → mGn → mKr → Prop
/-- an entry: pc, instruction, where it goes (with keys), a number, a place in the tables -/
abbrev mEn : Type := Nat × Instr × List (Nat × Int32) × Int32 × Nat
/-- fields by places: index, kind of object, slot, sort (0 a reference, 1 int, 2 boolean) -/
abbrev mFt : Type := List (Nat × Nat × Nat × Nat)
/-- calls by places: index, sort (0 virtual, 1 static), how many values beside the receiver, the receiver's kind, what it does -/
abbrev mCt : Type := List (Nat × Nat × Nat × Nat × mSp)
def mE (ad : Nat → Nat) (v : mV) : Value := match v with
  | .inl x => .int x
  | .inr j => .ref (ad j)
def mGet : mL → Nat → Option mV
  | [], _ => none
  | q :: r, i => if q.1 = i then some q.2 else mGet r i
def mSet (lv : mL) (i : Nat) (v : mV) : mL := (i, v) :: lv.filter (fun q => !(q.1 == i))
def mUp (g : mGn) (j : Nat) (h : Nat → Int32) : mGn := fun i => if i = j then h else g i
def mFv (ad : Nat → Nat) (f : mFn) (n : Nat) : Option Nat → Value
  | none => .int (f n)
  | some q => .ref (ad q)
def mFl (ad : Nat → Nat) (f : mFn) (j : Nat) (k : Nat) (fl : List (Option Nat)) : List Value := match fl with
  | [] => []
  | o :: r => mFv ad f (64 * j + k) o :: mFl ad f j (k + 1) r
def mCell (ad : Nat → Nat) (tc : Nat → ClassId) (f : mFn) (g : mGn) (j : Nat) (c : (Nat × List (Option Nat)) ⊕ (Nat × Nat)) : va_E := match c with
  | .inl o => .inr (o.1, mFl ad f j 0 o.2)
  | .inr a => .inl (tc a.1, a.2, .inl (g j))
def mWr (ad : Nat → Nat) (tc : Nat → ClassId) (f : mFn) (g : mGn) : Nat → mSh → va_W
  | _, [] => []
  | j, c :: r => (ad j, mCell ad tc f g j c) :: mWr ad tc f g (j + 1) r
def mW (ad : Nat → Nat) (tc : Nat → ClassId) (sh : mSh) (f : mFn) (g : mGn) : va_W := mWr ad tc f g 0 sh
def mShOk (sh : mSh) : Bool := sh.all (fun c => match c with | .inl o => decide (o.2.length ≤ 64) | .inr _ => true)
def mCdT (c : Jvm.ClassFile.Cond) (x y : Int32) : Prop := match c with
  | .eq => x = y
  | .ne => ¬ x = y
  | .lt => x < y
  | .ge => y ≤ x
  | .gt => y < x
  | .le => x ≤ y
def mCdF (c : Jvm.ClassFile.Cond) (x y : Int32) : Prop := match c with
  | .eq => ¬ x = y
  | .ne => x = y
  | .lt => ¬ x < y
  | .ge => ¬ y ≤ x
  | .gt => ¬ y < x
  | .le => ¬ x ≤ y
def mTab (x : Int32) (k : Nat → Prop) : List (Nat × Int32) → Prop
  | [] => False
  | q :: r => match r with
    | [] => k q.1
    | _ :: _ => (x = q.2 → k q.1) ∧ (¬ x = q.2 → mTab x k r)
def mI1 (st : List mV) (k : Int32 → List mV → Prop) : Prop := match st with
  | .inl x :: r => k x r
  | _ => False
def mI2 (st : List mV) (k : Int32 → Int32 → List mV → Prop) : Prop := match st with
  | .inl y :: .inl x :: r => k x y r
  | _ => False
def mI3 (st : List mV) (k : Int32 → Int32 → Nat → List mV → Prop) : Prop := match st with
  | .inl x :: .inl i :: .inr j :: r => k x i j r
  | _ => False
def mJ1 (tg : List (Nat × Int32)) (k : Nat → Prop) : Prop := match tg with
  | [q] => k q.1
  | _ => False
def mLd (lv : mL) (i : Nat) (k : Int32 → Prop) : Prop := match mGet lv i with
  | some (.inl x) => k x
  | _ => False
def mLr (lv : mL) (i : Nat) (k : Nat → Prop) : Prop := match mGet lv i with
  | some (.inr x) => k x
  | _ => False
def mSc (sh : mSh) (j : Nat) (ci k : Nat) (kk : Option Nat → Prop) : Prop := match sh[j]? with
  | some (.inl o) => if o.1 = ci then (match o.2[k]? with | some q => kk q | none => False) else False
  | _ => False
def mSa (sh : mSh) (j t : Nat) (kk : Nat → Prop) : Prop := match sh[j]? with
  | some (.inr a) => if a.1 = t then kk a.2 else False
  | _ => False
def mGf (Fd : mFt) (x : Nat) (kk : Nat → Nat → Nat → Prop) : Prop := match Fd[x]? with
  | some q => kk q.2.1 q.2.2.1 q.2.2.2
  | none => False
def mRo (sh : mSh) (j ci : Nat) (kk : Prop) : Prop := match sh[j]? with
  | some (.inl o) => if o.1 = ci then kk else False
  | _ => False
def mIv (sh : mSh) (Cl : mCt) (x : Nat) (st : List mV) (f : mFn) (g : mGn) (kk : List mV → mKr) : Prop := match Cl[x]? with
  | some q => (match st.drop q.2.2.1 with
    | .inr j :: r => mRo sh j q.2.2.2.1 (if r.length ≤ 8 then q.2.2.2.2 (.inr j :: (st.take q.2.2.1).reverse) f g (kk r) else False)
    | _ => False)
  | none => False
def mIs (Cl : mCt) (x : Nat) (st : List mV) (f : mFn) (g : mGn) (kk : List mV → mKr) : Prop := match Cl[x]? with
  | some q => if q.2.2.1 ≤ st.length then (if (st.drop q.2.2.1).length ≤ 8 then q.2.2.2.2 (st.take q.2.2.1).reverse f g (kk (st.drop q.2.2.1)) else False) else False
  | none => False
def mPush (r : Option mV) (st : List mV) : List mV := match r with
  | some v => v :: st
  | none => st
/-- what an instruction asks, of those behind it -/
def mS (sh : mSh) (Fd : mFt) (Cl : mCt) (kn : mL → List mV → mFn → mGn → Prop) (kj : Nat → mL → List mV → mFn → mGn → Prop) (kr : mKr) (i : Instr) (tg : List (Nat × Int32)) (cs : Int32) (x : Nat) (lv : mL) (st : List mV) (f : mFn) (g : mGn) : Prop := match i with
  | .iconst _ => kn lv (.inl cs :: st) f g
  | .bipush _ => kn lv (.inl cs :: st) f g
  | .sipush _ => kn lv (.inl cs :: st) f g
  | .ldc _ => kn lv (.inl cs :: st) f g
  | .ldc_w _ => kn lv (.inl cs :: st) f g
  | .iload_n k => mLd lv k fun v => kn lv (.inl v :: st) f g
  | .iload k => mLd lv k fun v => kn lv (.inl v :: st) f g
  | .aload_n k => mLr lv k fun v => kn lv (.inr v :: st) f g
  | .aload k => mLr lv k fun v => kn lv (.inr v :: st) f g
  | .istore_n k => mI1 st fun v r => kn (mSet lv k (.inl v)) r f g
  | .istore k => mI1 st fun v r => kn (mSet lv k (.inl v)) r f g
  | .astore_n k => (match st with | .inr j :: r => kn (mSet lv k (.inr j)) r f g | _ => False)
  | .astore k => (match st with | .inr j :: r => kn (mSet lv k (.inr j)) r f g | _ => False)
  | .iinc k _ => mLd lv k fun v => kn (mSet lv k (.inl (v + cs))) st f g
  | .iadd => mI2 st fun a b r => kn lv (.inl (a + b) :: r) f g
  | .isub => mI2 st fun a b r => kn lv (.inl (a - b) :: r) f g
  | .imul => mI2 st fun a b r => kn lv (.inl (a * b) :: r) f g
  | .iand => mI2 st fun a b r => kn lv (.inl (a &&& b) :: r) f g
  | .ior => mI2 st fun a b r => kn lv (.inl (a ||| b) :: r) f g
  | .ixor => mI2 st fun a b r => kn lv (.inl (a ^^^ b) :: r) f g
  | .ishl => mI2 st fun a b r => kn lv (.inl (a <<< (b &&& 31)) :: r) f g
  | .ishr => mI2 st fun a b r => kn lv (.inl (a >>> (b &&& 31)) :: r) f g
  | .iushr => mI2 st fun a b r => kn lv (.inl ((a.toUInt32 >>> (b.toUInt32 &&& Int32.toUInt32 31)).toInt32) :: r) f g
  | .irem => mI2 st fun a b r => ¬ b = 0 ∧ kn lv (.inl (a - a / b * b) :: r) f g
  | .ineg => mI1 st fun a r => kn lv (.inl (-a) :: r) f g
  | .pop => (match st with | _ :: r => kn lv r f g | [] => False)
  | .dup => (match st with | v :: r => kn lv (v :: v :: r) f g | [] => False)
  | .dup2 => (match st with | v :: w :: r => kn lv (v :: w :: v :: w :: r) f g | _ => False)
  | .dup_x1 => (match st with | v :: w :: r => kn lv (v :: w :: v :: r) f g | _ => False)
  | .goto _ => mJ1 tg fun t => kj t lv st f g
  | .ifCond c _ => mI1 st fun a r => mJ1 tg fun t => (mCdT c a 0 → kj t lv r f g) ∧ (mCdF c a 0 → kn lv r f g)
  | .if_icmp c _ => mI2 st fun a b r => mJ1 tg fun t => (mCdT c a b → kj t lv r f g) ∧ (mCdF c a b → kn lv r f g)
  | .tableswitch _ _ _ _ => mI1 st fun a r => mTab a (fun t => kj t lv r f g) tg
  | .lookupswitch _ _ => mI1 st fun a r => mTab a (fun t => kj t lv r f g) tg
  | .getfield _ => (match st with
    | .inr j :: r => mGf Fd x fun ci k _ => mSc sh j ci k fun q => (match q with | none => kn lv (.inl (f (64 * j + k)) :: r) f g | some j' => kn lv (.inr j' :: r) f g)
    | _ => False)
  | .putfield _ => (match st with
    | .inl v :: .inr j :: r => mGf Fd x fun ci k z => mSc sh j ci k fun q => (match q, z with | none, 1 => kn lv r (upd f (64 * j + k) v) g | none, 2 => (v = 0 ∨ v = 1) ∧ kn lv r (upd f (64 * j + k) v) g | _, _ => False)
    | _ => False)
  | .iaload => (match st with
    | .inl i :: .inr j :: r => mSa sh j 0 fun n => vp_in i n ∧ kn lv (.inl (g j i.toNatClampNeg) :: r) f g
    | _ => False)
  | .baload => (match st with
    | .inl i :: .inr j :: r => mSa sh j 1 fun n => vp_in i n ∧ kn lv (.inl (g j i.toNatClampNeg) :: r) f g
    | _ => False)
  | .iastore => mI3 st fun v i j r => mSa sh j 0 fun n => vp_in i n ∧ kn lv r f (mUp g j (upd (g j) i.toNatClampNeg v))
  | .bastore => mI3 st fun v i j r => mSa sh j 1 fun n => vp_in i n ∧ kn lv r f (mUp g j (upd (g j) i.toNatClampNeg (v &&& 1)))
  | .arraylength => (match st with
    | .inr j :: r => mSa sh j 0 fun n => kn lv (.inl (Int32.ofNat n) :: r) f g
    | _ => False)
  | .invokevirtual _ => mIv sh Cl x st f g fun rest r f' g' => kn lv (mPush r rest) f' g'
  | .invokestatic _ => mIs Cl x st f g fun rest r f' g' => kn lv (mPush r rest) f' g'
  | .ireturn => (match st with | [.inl v] => kr (some (.inl v)) f g | _ => False)
  | .return_ => (match st with | [] => kr none f g | _ => False)
  | _ => False
/-- a block: its instructions one behind another; behind the last it goes on at 'e' -/
def mB (sh : mSh) (Fd : mFt) (Cl : mCt) (e : Nat) (kj : Nat → mL → List mV → mFn → mGn → Prop) (kr : mKr) : List mEn → mL → List mV → mFn → mGn → Prop
  | [], lv, st, f, g => kj e lv st f g
  | q :: r, lv, st, f, g => mS sh Fd Cl (mB sh Fd Cl e kj kr r) kj kr q.2.1 q.2.2.1 q.2.2.2.1 q.2.2.2.2 lv st f g
abbrev mBl : Type := Nat × List mEn × Nat
/-- a predicate over points that each block passes on, and that asks no local that isn't named -/
def mR (sh : mSh) (Fd : mFt) (Cl : mCt) (bs : List mBl) (kr : mKr) (X : Nat → mL → List mV → mFn → mGn → Prop) : Prop :=
  (∀ (n : Nat) (b : mBl), bs[n]? = some b → ∀ lv st f g, mB sh Fd Cl b.2.2 X kr b.2.1 lv st f g → X b.1 lv st f g) ∧
  (∀ (pc : Nat) (lv lv' : mL) (st : List mV) (f : mFn) (g : mGn), (∀ q ∈ lv', mGet lv q.1 = some q.2) → X pc lv' st f g → X pc lv st f g)
def mAr : Nat → List mV → mL
  | _, [] => []
  | i, v :: r => (i, v) :: mAr (i + 1) r
/-- what a method does -/
def mM (sh : mSh) (Fd : mFt) (Cl : mCt) (bs : List mBl) : mSp := fun av f g kr => ∀ X, mR sh Fd Cl bs kr X → X 0 (mAr 0 av) [] f g
/-! the world's rows -/
theorem mFl_get (ad : Nat → Nat) (f : mFn) (j : Nat) : ∀ (fl : List (Option Nat)) (k i : Nat), (mFl ad f j k fl)[i]? = fl[i]?.map (fun o => mFv ad f (64 * j + (k + i)) o)
  | [], k, i => by simp [mFl]
  | o :: r, k, i => by
    cases i with
    | zero => simp [mFl]
    | succ i =>
      rw [mFl, List.getElem?_cons_succ, List.getElem?_cons_succ, mFl_get ad f j r (k + 1) i]
      rw [show k + 1 + i = k + (i + 1) by omega]
theorem mFl_len (ad : Nat → Nat) (f : mFn) (j : Nat) : ∀ (fl : List (Option Nat)) (k : Nat), (mFl ad f j k fl).length = fl.length
  | [], k => rfl
  | o :: r, k => by rw [mFl, List.length_cons, List.length_cons, mFl_len ad f j r (k + 1)]
theorem mWr_get (ad : Nat → Nat) (tc : Nat → ClassId) (f : mFn) (g : mGn) : ∀ (sh : mSh) (j i : Nat), (mWr ad tc f g j sh)[i]? = sh[i]?.map (fun c => (ad (j + i), mCell ad tc f g (j + i) c))
  | [], j, i => by simp [mWr]
  | c :: r, j, i => by
    cases i with
    | zero => simp [mWr]
    | succ i =>
      rw [mWr, List.getElem?_cons_succ, List.getElem?_cons_succ, mWr_get ad tc f g r (j + 1) i]
      rw [show j + 1 + i = j + (i + 1) by omega]
theorem mW_get {ad : Nat → Nat} {tc : Nat → ClassId} {sh : mSh} {f : mFn} {g : mGn} {i : Nat} {c : (Nat × List (Option Nat)) ⊕ (Nat × Nat)} (h : sh[i]? = some c) : (mW ad tc sh f g)[i]? = some (ad i, mCell ad tc f g i c) := by
  rw [mW, mWr_get, h]; simp
theorem mFl_off (ad : Nat → Nat) (f : mFn) (j n : Nat) (x : Int32) (fl : List (Option Nat)) (k : Nat) (h : ∀ i, i < fl.length → 64 * j + (k + i) ≠ n) : mFl ad (upd f n x) j k fl = mFl ad f j k fl := by
  apply List.ext_getElem?
  intro i
  rw [mFl_get, mFl_get]
  cases e : fl[i]? with
  | none => rfl
  | some o =>
    cases o with
    | some q => rfl
    | none =>
      have hi := (List.getElem?_eq_some_iff.mp e).1
      simp only [Option.map_some, mFv]
      rw [pk_un (h i hi)]
theorem mFl_set (ad : Nat → Nat) (f : mFn) (j k : Nat) (x : Int32) (fl : List (Option Nat)) (h : fl[k]? = some none) : (mFl ad f j 0 fl).set k (.int x) = mFl ad (upd f (64 * j + k) x) j 0 fl := by
  have hk : k < fl.length := (List.getElem?_eq_some_iff.mp h).1
  apply List.ext_getElem?
  intro i
  by_cases hi : i = k
  · subst hi
    rw [List.getElem?_set_self (by rw [mFl_len]; exact hk), mFl_get, h]
    simp only [Option.map_some, Nat.zero_add, mFv]
    rw [pk_us]
  · rw [List.getElem?_set_ne (Ne.symm hi), mFl_get, mFl_get]
    cases e : fl[i]? with
    | none => rfl
    | some o =>
      cases o with
      | some q => rfl
      | none =>
        simp only [Option.map_some, mFv]
        rw [pk_un (by omega)]
theorem mShOk_at {sh : mSh} (h : mShOk sh = true) {i : Nat} {o : Nat × List (Option Nat)} (hi : sh[i]? = some (.inl o)) : o.2.length ≤ 64 := by
  have h1 := List.all_eq_true.mp h _ (List.mem_of_getElem? hi)
  exact of_decide_eq_true h1
theorem mW_put {ad : Nat → Nat} {tc : Nat → ClassId} {sh : mSh} {f : mFn} {g : mGn} {j k ci : Nat} {fl : List (Option Nat)} {x : Int32} (hok : mShOk sh = true) (h : sh[j]? = some (.inl (ci, fl))) (hk : fl[k]? = some none) :
    (mW ad tc sh f g).set j (ad j, .inr (ci, (mFl ad f j 0 fl).set k (.int x))) = mW ad tc sh (upd f (64 * j + k) x) g := by
  have hj : j < sh.length := (List.getElem?_eq_some_iff.mp h).1
  have hl : k < fl.length := (List.getElem?_eq_some_iff.mp hk).1
  have hl64 : fl.length ≤ 64 := mShOk_at hok h
  apply List.ext_getElem?
  intro i
  by_cases hi : i = j
  · subst hi
    have hlt : i < (mW ad tc sh f g).length := (List.getElem?_eq_some_iff.mp (mW_get (ad := ad) (tc := tc) (f := f) (g := g) h)).1
    rw [List.getElem?_set_self hlt, mW_get h]
    rw [mFl_set ad f i k x fl hk]
    rfl
  · rw [List.getElem?_set_ne (Ne.symm hi)]
    cases e : sh[i]? with
    | none => rw [mW, mW, mWr_get, mWr_get, e]; rfl
    | some c =>
      rw [mW_get e, mW_get e]
      cases c with
      | inr a => rfl
      | inl o =>
        have h64 : o.2.length ≤ 64 := mShOk_at hok e
        simp only [mCell]
        rw [mFl_off ad f i (64 * j + k) x o.2 0 (fun a ha => by omega)]
theorem mW_arr {ad : Nat → Nat} {tc : Nat → ClassId} {sh : mSh} {f : mFn} {g : mGn} {j t n : Nat} {y : Nat → Int32} (h : sh[j]? = some (.inr (t, n))) :
    (mW ad tc sh f g).set j (ad j, .inl (tc t, n, .inl y)) = mW ad tc sh f (mUp g j y) := by
  apply List.ext_getElem?
  intro i
  by_cases hi : i = j
  · subst hi
    have hlt : i < (mW ad tc sh f g).length := (List.getElem?_eq_some_iff.mp (mW_get (ad := ad) (tc := tc) (f := f) (g := g) h)).1
    rw [List.getElem?_set_self hlt, mW_get h]
    simp [mCell, mUp]
  · rw [List.getElem?_set_ne (Ne.symm hi)]
    cases e : sh[i]? with
    | none => rw [mW, mW, mWr_get, mWr_get, e]; rfl
    | some c =>
      rw [mW_get e, mW_get e]
      cases c with
      | inr a => simp [mCell, mUp, hi]
      | inl o => rfl
