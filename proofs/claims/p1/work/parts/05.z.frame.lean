/-! what a method keeps: a predicate over the scalars that no write of its own breaks -/
theorem mI1_mono {st : List mV} {k k' : Int32 → List mV → Prop} (h : ∀ x r, k x r → k' x r) (h1 : mI1 st k) : mI1 st k' := by
  obtain ⟨x, r, rfl, h2⟩ := mI1_inv h1; exact h _ _ h2
theorem mI2_mono {st : List mV} {k k' : Int32 → Int32 → List mV → Prop} (h : ∀ x y r, k x y r → k' x y r) (h1 : mI2 st k) : mI2 st k' := by
  obtain ⟨x, y, r, rfl, h2⟩ := mI2_inv h1; exact h _ _ _ h2
theorem mI3_mono {st : List mV} {k k' : Int32 → Int32 → Nat → List mV → Prop} (h : ∀ x i j r, k x i j r → k' x i j r) (h1 : mI3 st k) : mI3 st k' := by
  obtain ⟨x, i, j, r, rfl, h2⟩ := mI3_inv h1; exact h _ _ _ _ h2
theorem mJ1_mono {tg : List (Nat × Int32)} {k k' : Nat → Prop} (h : ∀ t, k t → k' t) (h1 : mJ1 tg k) : mJ1 tg k' := by
  obtain ⟨q, rfl, h2⟩ := mJ1_inv h1; exact h _ h2
theorem mTab_mono {x : Int32} {k k' : Nat → Prop} (h : ∀ t, k t → k' t) : ∀ (tg : List (Nat × Int32)), mTab x k tg → mTab x k' tg
  | [], h1 => h1
  | [q], h1 => h _ h1
  | q :: q2 :: r, h1 => ⟨fun c => h _ (h1.1 c), fun c => mTab_mono h (q2 :: r) (h1.2 c)⟩
theorem mLd_mono {lv : mL} {i : Nat} {k k' : Int32 → Prop} (h : ∀ x, k x → k' x) (h1 : mLd lv i k) : mLd lv i k' := by
  obtain ⟨x, e, h2⟩ := mLd_inv h1
  unfold mLd; rw [e]; exact h _ h2
theorem mLr_mono {lv : mL} {i : Nat} {k k' : Nat → Prop} (h : ∀ x, k x → k' x) (h1 : mLr lv i k) : mLr lv i k' := by
  obtain ⟨x, e, h2⟩ := mLr_inv h1
  unfold mLr; rw [e]; exact h _ h2
theorem mSc_mono {sh : mSh} {j ci k : Nat} {kk kk' : Option Nat → Prop} (h : ∀ q, kk q → kk' q) (h1 : mSc sh j ci k kk) : mSc sh j ci k kk' := by
  obtain ⟨fl, q, e1, e2, h2⟩ := mSc_inv h1
  unfold mSc; rw [e1]
  simp only [if_true]
  rw [e2]; exact h _ h2
theorem mSa_mono {sh : mSh} {j t : Nat} {kk kk' : Nat → Prop} (h : ∀ n, kk n → kk' n) (h1 : mSa sh j t kk) : mSa sh j t kk' := by
  obtain ⟨n, e1, h2⟩ := mSa_inv h1
  unfold mSa; rw [e1]
  simp only [if_true]
  exact h _ h2
theorem mRo_mono {sh : mSh} {j ci : Nat} {kk kk' : Prop} (h : kk → kk') (h1 : mRo sh j ci kk) : mRo sh j ci kk' := by
  obtain ⟨⟨fl, e1⟩, h2⟩ := mRo_inv h1
  unfold mRo; rw [e1]
  simp only [if_true]
  exact h h2
def mKp (P : mFn → Prop) (sp : mSp) : Prop := ∀ (av : List mV) (f : mFn) (g : mGn) (K K' : mKr), P f → (∀ r f' g', P f' → K r f' g' → K' r f' g') → sp av f g K → sp av f g K'
/-- the writes of a method's field table keep P -/
def mKw (P : mFn → Prop) (sh : mSh) (Fd : mFt) : Prop := ∀ q ∈ Fd, (q.2.2.2 = 1 ∨ q.2.2.2 = 2) → ∀ (j : Nat) (fl : List (Option Nat)) (f : mFn) (v : Int32), sh[j]? = some (.inl (q.2.1, fl)) → P f → P (upd f (64 * j + q.2.2.1) v)
section FR
variable {P : mFn → Prop} {sh : mSh} {Fd : mFt} {Cl : mCt}
set_option maxHeartbeats 4000000 in
theorem mS_fr (hw : mKw P sh Fd) (hc : ∀ q ∈ Cl, mKp P q.2.2.2.2) {kn kn' : mL → List mV → mFn → mGn → Prop} {kj kj' : Nat → mL → List mV → mFn → mGn → Prop} {kr kr' : mKr} {i : Instr} {tg : List (Nat × Int32)} {cs : Int32} {x : Nat} {lv : mL} {st : List mV} {f : mFn} {g : mGn}
    (hP : P f) (hkn : ∀ lv st f g, P f → kn lv st f g → kn' lv st f g) (hkj : ∀ t lv st f g, P f → kj t lv st f g → kj' t lv st f g) (hkr : ∀ r f g, P f → kr r f g → kr' r f g)
    (h : mS sh Fd Cl kn kj kr i tg cs x lv st f g) : mS sh Fd Cl kn' kj' kr' i tg cs x lv st f g := by
  cases i with
  | iconst n => exact hkn _ _ _ _ hP h
  | bipush n => exact hkn _ _ _ _ hP h
  | sipush n => exact hkn _ _ _ _ hP h
  | ldc n => exact hkn _ _ _ _ hP h
  | ldc_w n => exact hkn _ _ _ _ hP h
  | iload_n k => exact mLd_mono (fun v h => hkn _ _ _ _ hP h) h
  | iload k => exact mLd_mono (fun v h => hkn _ _ _ _ hP h) h
  | aload_n k => exact mLr_mono (fun v h => hkn _ _ _ _ hP h) h
  | aload k => exact mLr_mono (fun v h => hkn _ _ _ _ hP h) h
  | istore_n k => exact mI1_mono (fun v r h => hkn _ _ _ _ hP h) h
  | istore k => exact mI1_mono (fun v r h => hkn _ _ _ _ hP h) h
  | iinc k n => exact mLd_mono (fun v h => hkn _ _ _ _ hP h) h
  | iadd => exact mI2_mono (fun a b r h => hkn _ _ _ _ hP h) h
  | isub => exact mI2_mono (fun a b r h => hkn _ _ _ _ hP h) h
  | imul => exact mI2_mono (fun a b r h => hkn _ _ _ _ hP h) h
  | iand => exact mI2_mono (fun a b r h => hkn _ _ _ _ hP h) h
  | ior => exact mI2_mono (fun a b r h => hkn _ _ _ _ hP h) h
  | ixor => exact mI2_mono (fun a b r h => hkn _ _ _ _ hP h) h
  | ishl => exact mI2_mono (fun a b r h => hkn _ _ _ _ hP h) h
  | ishr => exact mI2_mono (fun a b r h => hkn _ _ _ _ hP h) h
  | iushr => exact mI2_mono (fun a b r h => hkn _ _ _ _ hP h) h
  | irem => exact mI2_mono (fun a b r h => ⟨h.1, hkn _ _ _ _ hP h.2⟩) h
  | ineg => exact mI1_mono (fun a r h => hkn _ _ _ _ hP h) h
  | astore_n k =>
    simp only [mS] at h ⊢
    split at h
    · exact hkn _ _ _ _ hP h
    · exact False.elim h
  | astore k =>
    simp only [mS] at h ⊢
    split at h
    · exact hkn _ _ _ _ hP h
    · exact False.elim h
  | pop =>
    simp only [mS] at h ⊢
    split at h
    · exact hkn _ _ _ _ hP h
    · exact False.elim h
  | dup =>
    simp only [mS] at h ⊢
    split at h
    · exact hkn _ _ _ _ hP h
    · exact False.elim h
  | dup2 =>
    simp only [mS] at h ⊢
    split at h
    · exact hkn _ _ _ _ hP h
    · exact False.elim h
  | dup_x1 =>
    simp only [mS] at h ⊢
    split at h
    · exact hkn _ _ _ _ hP h
    · exact False.elim h
  | ireturn =>
    simp only [mS] at h ⊢
    split at h
    · exact hkr _ _ _ hP h
    · exact False.elim h
  | return_ =>
    simp only [mS] at h ⊢
    split at h
    · exact hkr _ _ _ hP h
    · exact False.elim h
  | goto off => exact mJ1_mono (fun t h => hkj _ _ _ _ _ hP h) (show mJ1 tg (fun t => kj t lv st f g) from h)
  | ifCond c off => exact mI1_mono (fun a r h => mJ1_mono (fun t h => ⟨fun z => hkj _ _ _ _ _ hP (h.1 z), fun z => hkn _ _ _ _ hP (h.2 z)⟩) h) h
  | if_icmp c off => exact mI2_mono (fun a b r h => mJ1_mono (fun t h => ⟨fun z => hkj _ _ _ _ _ hP (h.1 z), fun z => hkn _ _ _ _ hP (h.2 z)⟩) h) h
  | tableswitch d lo hi offs => exact mI1_mono (fun a r h => mTab_mono (fun t h => hkj _ _ _ _ _ hP h) _ h) h
  | lookupswitch d ps => exact mI1_mono (fun a r h => mTab_mono (fun t h => hkj _ _ _ _ _ hP h) _ h) h
  | getfield idx =>
    simp only [mS] at h ⊢
    split at h
    · obtain ⟨q, hq, h⟩ := mGf_inv h
      unfold mGf
      rw [hq]
      refine mSc_mono (fun q h => ?_) h
      cases q with
      | none => exact hkn _ _ _ _ hP h
      | some j => exact hkn _ _ _ _ hP h
    · exact False.elim h
  | putfield idx =>
    simp only [mS] at h ⊢
    split at h
    · obtain ⟨q, hq, h⟩ := mGf_inv h
      unfold mGf
      rw [hq]
      obtain ⟨fl, o, hs, ho, h⟩ := mSc_inv h
      unfold mSc
      rw [hs]
      simp only [if_true]
      rw [ho]
      have hwq := hw q (List.mem_of_getElem? hq)
      split at h
      · rename_i hz
        rw [hz]
        exact hkn _ _ _ _ (hwq (Or.inl hz) _ _ _ _ hs hP) h
      · rename_i hz
        rw [hz]
        exact ⟨h.1, hkn _ _ _ _ (hwq (Or.inr hz) _ _ _ _ hs hP) h.2⟩
      · exact False.elim h
    · exact False.elim h
  | iaload =>
    simp only [mS] at h ⊢
    split at h
    · exact mSa_mono (fun n h => ⟨h.1, hkn _ _ _ _ hP h.2⟩) h
    · exact False.elim h
  | baload =>
    simp only [mS] at h ⊢
    split at h
    · exact mSa_mono (fun n h => ⟨h.1, hkn _ _ _ _ hP h.2⟩) h
    · exact False.elim h
  | arraylength =>
    simp only [mS] at h ⊢
    split at h
    · exact mSa_mono (fun n h => hkn _ _ _ _ hP h) h
    · exact False.elim h
  | iastore => exact mI3_mono (fun v i j r h => mSa_mono (fun n h => ⟨h.1, hkn _ _ _ _ hP h.2⟩) h) h
  | bastore => exact mI3_mono (fun v i j r h => mSa_mono (fun n h => ⟨h.1, hkn _ _ _ _ hP h.2⟩) h) h
  | invokevirtual idx =>
    simp only [mS, mIv] at h ⊢
    split at h
    · rename_i q hq
      split at h
      · rename_i j r hst
        refine mRo_mono (fun h => ?_) h
        by_cases hr : r.length ≤ 8
        · rw [if_pos hr] at h ⊢
          exact hc q (List.mem_of_getElem? hq) _ _ _ _ _ hP (fun v f' g' hp hk => hkn _ _ _ _ hp hk) h
        · rw [if_neg hr] at h; exact False.elim h
      · exact False.elim h
    · exact False.elim h
  | invokestatic idx =>
    simp only [mS, mIs] at h ⊢
    split at h
    · rename_i q hq
      by_cases hlen : q.2.2.1 ≤ st.length
      · rw [if_pos hlen] at h ⊢
        by_cases hr : (st.drop q.2.2.1).length ≤ 8
        · rw [if_pos hr] at h ⊢
          exact hc q (List.mem_of_getElem? hq) _ _ _ _ _ hP (fun v f' g' hp hk => hkn _ _ _ _ hp hk) h
        · rw [if_neg hr] at h; exact False.elim h
      · rw [if_neg hlen] at h; exact False.elim h
    · exact False.elim h
  | _ => exact False.elim h
theorem mB_fr (hw : mKw P sh Fd) (hc : ∀ q ∈ Cl, mKp P q.2.2.2.2) {en : Nat} {kj kj' : Nat → mL → List mV → mFn → mGn → Prop} {kr kr' : mKr} (hkj : ∀ t lv st f g, P f → kj t lv st f g → kj' t lv st f g) (hkr : ∀ r f g, P f → kr r f g → kr' r f g) : ∀ (is : List mEn) (lv : mL) (st : List mV) (f : mFn) (g : mGn), P f → mB sh Fd Cl en kj kr is lv st f g → mB sh Fd Cl en kj' kr' is lv st f g
  | [], lv, st, f, g, hP, h => hkj _ _ _ _ _ hP h
  | q :: r, lv, st, f, g, hP, h => mS_fr hw hc hP (fun lv st f g hp hk => mB_fr hw hc hkj hkr r lv st f g hp hk) hkj hkr h
theorem mKp_of (hw : mKw P sh Fd) (hc : ∀ q ∈ Cl, mKp P q.2.2.2.2) {bs : List mBl} {na : Nat} {ret : Option FieldType} : mKp P (mSpOf sh Fd Cl bs na ret) := by
  intro av f g K K' hP hK h
  refine ⟨h.1, fun X' hX' => ?_⟩
  refine h.2 (fun pc lv st f g => P f → X' pc lv st f g) ⟨fun n b hb lv st f g hB hp => ?_, fun pc lv lv' st f g hs hx hp => hX'.2 pc lv lv' st f g hs (hx hp)⟩ hP
  exact hX'.1 n b hb lv st f g (mB_fr hw hc (fun t lv st f g hp hk => hk hp) (fun r f g hp hk => ⟨hk.1, hK r f g hp hk.2⟩) b.2.1 lv st f g hp hB)
end FR
/-- scalar k stays c -/
theorem mKw_k {sh : mSh} {Fd : mFt} {k : Nat} {c : Int32} (h : ∀ q ∈ Fd, (q.2.2.2 = 1 ∨ q.2.2.2 = 2) → ∀ (j : Nat) (fl : List (Option Nat)), sh[j]? = some (.inl (q.2.1, fl)) → 64 * j + q.2.2.1 ≠ k) : mKw (fun f => f k = c) sh Fd :=
  fun q hq hz j fl f v hs hf => by
    show upd f (64 * j + q.2.2.1) v k = c
    rw [pk_un (Ne.symm (h q hq hz j fl hs))]; exact hf
def mKwB (sh : mSh) (Fd : mFt) (k : Nat) : Bool := Fd.all (fun q => (!(q.2.2.2 == 1) && !(q.2.2.2 == 2)) || (List.range sh.length).all (fun j => match sh[j]? with | some (.inl o) => !(o.1 == q.2.1) || !(64 * j + q.2.2.1 == k) | _ => true))
theorem mKw_b {sh : mSh} {Fd : mFt} {k : Nat} {c : Int32} (h : mKwB sh Fd k = true) : mKw (fun f => f k = c) sh Fd := by
  refine mKw_k fun q hq hz j fl hs he => ?_
  have h1 := List.all_eq_true.mp h q hq
  have hj : j < sh.length := (List.getElem?_eq_some_iff.mp hs).1
  rcases Bool.or_eq_true_iff.mp h1 with h2 | h2
  · simp only [Bool.and_eq_true, Bool.not_eq_true', beq_eq_false_iff_ne] at h2
    rcases hz with z | z
    · exact h2.1 z
    · exact h2.2 z
  · have h3 := List.all_eq_true.mp h2 j (List.mem_range.mpr hj)
    rw [hs] at h3
    simp [he] at h3
