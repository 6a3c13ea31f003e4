section MS2
variable {p : Program} {l : Launch} {e : Env} {R : Room} {s : State} {m : MethodId} {args : Array Value} {below : List Frame} {meth : Method} {c : Code} {cells slots : Nat} {Q : State → Prop} {cc : ByteArray} {nL : Nat} {D : va_G} {cl : List vw_C} {ad : Nat → Nat} {tc : Nat → ClassId} {sh : mSh} {A : Nat → Prop} {H0 : Heap} {Ts : List Jvm.Cond} {own : String}

set_option maxHeartbeats 4000000 in
theorem mS_sound {Fd : mFt} {Cl : mCt} {Ks : List (Nat × Int32)} {Fi Ci : List (Nat × Nat)} (F : mFx p s m args c cc nL D cl tc sh Ts own A H0) (hF : ∀ q ∈ Fd, mFo cl Ts own q) (hKs : ∀ q ∈ Ks, Jvm.Cond.constant own q.1 q.2 ∈ Ts) (hC : ∀ q ∈ Cl, mCo l D cl ad tc sh Ts own R q) (hFi : Fi = Fd.map (fun q => (q.1, 0))) (hCi : Ci = Cl.map (fun q => (q.1, q.2.1))) (hcl : cells ≤ R.cells) (hsl : slots ≤ R.slots) {kn : mL → List mV → mFn → mGn → Prop} {kj : Nat → mL → List mV → mFn → mGn → Prop} {kr : mKr} {i : Instr} {tg : List (Nat × Int32)} {cs : Int32} {x pc : Nat} {lv : mL} {st : List mV} {f : mFn} {g : mGn}
    (h : mS sh Fd Cl kn kj kr i tg cs x lv st f g) (hok : mOkI nL Ks Fi Ci pc i tg cs x = true) (hd : decode cc pc = .ok (i, mLen i x)) (hkn : ∀ lv st f g, kn lv st f g → mX p l e R s m args below meth c cells slots Q nL D cl ad tc sh A H0 (pc + mLen i x) lv st f g) (hkj : ∀ t lv st f g, kj t lv st f g → mX p l e R s m args below meth c cells slots Q nL D cl ad tc sh A H0 t lv st f g)
    (hri : ∀ v f g pc H locs ls, kr (some (.inl v)) f g → decode cc pc = .ok (.ireturn, 1) → va_P D cl (mW ad tc sh f g) H → va_D A (mW ad tc sh f g) → va_S A H0 H locs → W p l e R s m args below meth c H locs cells slots Q (F0 m pc ls [.int v])) (hrv : ∀ f g pc H locs ls, kr none f g → decode cc pc = .ok (.return_, 1) → va_P D cl (mW ad tc sh f g) H → va_D A (mW ad tc sh f g) → va_S A H0 H locs → W p l e R s m args below meth c H locs cells slots Q (F0 m pc ls [])) : mX p l e R s m args below meth c cells slots Q nL D cl ad tc sh A H0 pc lv st f g := by
  obtain ⟨hx, hb, hml, hown, hts, hK, hsh, hAA⟩ := id F
  cases i with
  | ldc idx =>
    intro H locs ls hl hP hD hS
    exact lv_ldc hx hb hown (hts _ (hKs (idx, cs) (List.mem_of_getElem? (beq_iff_eq.mp hok)))) hd (hkn _ _ _ _ h H locs ls hl hP hD hS)
  | ldc_w idx =>
    intro H locs ls hl hP hD hS
    exact lv_ldcw hx hb hown (hts _ (hKs (idx, cs) (List.mem_of_getElem? (beq_iff_eq.mp hok)))) hd (hkn _ _ _ _ h H locs ls hl hP hD hS)
  | iconst n =>
    intro H locs ls hl hP hD hS
    exact lv_iconst hx hb hd (beq_iff_eq.mp hok) (hkn _ _ _ _ h H locs ls hl hP hD hS)
  | bipush n =>
    intro H locs ls hl hP hD hS
    exact lv_bipush hx hb hd (beq_iff_eq.mp hok) (hkn _ _ _ _ h H locs ls hl hP hD hS)
  | sipush n =>
    intro H locs ls hl hP hD hS
    exact lv_sipush hx hb hd (beq_iff_eq.mp hok) (hkn _ _ _ _ h H locs ls hl hP hD hS)
  | iload_n k =>
    obtain ⟨v, hg, h⟩ := mLd_inv h
    intro H locs ls hl hP hD hS
    exact lv_iload_n hx hb hd rfl (mLv hl hg) (hkn _ _ _ _ h H locs ls hl hP hD hS)
  | iload k =>
    obtain ⟨v, hg, h⟩ := mLd_inv h
    intro H locs ls hl hP hD hS
    exact lv_iload hx hb hd (mLv hl hg) (hkn _ _ _ _ h H locs ls hl hP hD hS)
  | aload_n k =>
    obtain ⟨v, hg, h⟩ := mLr_inv h
    intro H locs ls hl hP hD hS
    exact lv_aload_n hx hb hd rfl (mLv hl hg) (hkn _ _ _ _ h H locs ls hl hP hD hS)
  | aload k =>
    obtain ⟨v, hg, h⟩ := mLr_inv h
    intro H locs ls hl hP hD hS
    exact lv_aload hx hb hd (mLv hl hg) (hkn _ _ _ _ h H locs ls hl hP hD hS)
  | istore_n k =>
    obtain ⟨v, r, rfl, h⟩ := mI1_inv h
    intro H locs ls hl hP hD hS
    exact lv_istore_n hx hb hd rfl hl (of_decide_eq_true hok) (mSet_map ad lv _ (.inl v)) (fun ls' hl' => hkn _ _ _ _ h H locs ls' hl' hP hD hS)
  | istore k =>
    obtain ⟨v, r, rfl, h⟩ := mI1_inv h
    intro H locs ls hl hP hD hS
    exact lv_istore hx hb hd hl (of_decide_eq_true hok) (mSet_map ad lv _ (.inl v)) (fun ls' hl' => hkn _ _ _ _ h H locs ls' hl' hP hD hS)
  | astore_n k =>
    simp only [mS] at h
    split at h
    · rename_i j r
      intro H locs ls hl hP hD hS
      exact lv_astore_n hx hb hd rfl hl (of_decide_eq_true hok) (mSet_map ad lv _ (.inr j)) (fun ls' hl' => hkn _ _ _ _ h H locs ls' hl' hP hD hS)
    · exact False.elim h
  | astore k =>
    simp only [mS] at h
    split at h
    · rename_i j r
      intro H locs ls hl hP hD hS
      exact lv_astore hx hb hd hl (of_decide_eq_true hok) (mSet_map ad lv _ (.inr j)) (fun ls' hl' => hkn _ _ _ _ h H locs ls' hl' hP hD hS)
    · exact False.elim h
  | iinc k n =>
    obtain ⟨v, hg, h⟩ := mLd_inv h
    intro H locs ls hl hP hD hS
    have hok2 := Bool.and_eq_true_iff.mp hok
    obtain ⟨kk, hkk⟩ := List.getElem?_of_mem (List.mem_map.mpr ⟨(k, Sum.inl v), mGet_mem hg, rfl⟩ : (k, mE ad (Sum.inl v)) ∈ lv.map (fun q => (q.1, mE ad q.2)))
    exact lv_iinc (v := v + cs) hx hb hd hl hkk (by rw [beq_iff_eq.mp hok2.2]) (of_decide_eq_true hok2.1) (mSet_map ad lv _ (.inl (v + cs))) (fun ls' hl' => hkn _ _ _ _ h H locs ls' hl' hP hD hS)
  | iadd =>
    obtain ⟨a, b, r, rfl, h⟩ := mI2_inv h
    intro H locs ls hl hP hD hS
    exact lv_iadd hx hb hd (hkn _ _ _ _ h H locs ls hl hP hD hS)
  | isub =>
    obtain ⟨a, b, r, rfl, h⟩ := mI2_inv h
    intro H locs ls hl hP hD hS
    exact lv_isub hx hb hd (hkn _ _ _ _ h H locs ls hl hP hD hS)
  | imul =>
    obtain ⟨a, b, r, rfl, h⟩ := mI2_inv h
    intro H locs ls hl hP hD hS
    exact lv_imul hx hb hd (hkn _ _ _ _ h H locs ls hl hP hD hS)
  | iand =>
    obtain ⟨a, b, r, rfl, h⟩ := mI2_inv h
    intro H locs ls hl hP hD hS
    exact lv_iand hx hb hd (hkn _ _ _ _ h H locs ls hl hP hD hS)
  | ior =>
    obtain ⟨a, b, r, rfl, h⟩ := mI2_inv h
    intro H locs ls hl hP hD hS
    exact lv_ior hx hb hd (hkn _ _ _ _ h H locs ls hl hP hD hS)
  | ixor =>
    obtain ⟨a, b, r, rfl, h⟩ := mI2_inv h
    intro H locs ls hl hP hD hS
    exact lv_ixor hx hb hd (hkn _ _ _ _ h H locs ls hl hP hD hS)
  | ishl =>
    obtain ⟨a, b, r, rfl, h⟩ := mI2_inv h
    intro H locs ls hl hP hD hS
    exact lv_ishl hx hb hd (hkn _ _ _ _ h H locs ls hl hP hD hS)
  | ishr =>
    obtain ⟨a, b, r, rfl, h⟩ := mI2_inv h
    intro H locs ls hl hP hD hS
    exact lv_ishr hx hb hd (hkn _ _ _ _ h H locs ls hl hP hD hS)
  | iushr =>
    obtain ⟨a, b, r, rfl, h⟩ := mI2_inv h
    intro H locs ls hl hP hD hS
    exact lv_iushr hx hb hd rfl (hkn _ _ _ _ h H locs ls hl hP hD hS)
  | irem =>
    obtain ⟨a, b, r, rfl, h⟩ := mI2_inv h
    intro H locs ls hl hP hD hS
    exact lv_irem hx hb hd h.1 (hkn _ _ _ _ h.2 H locs ls hl hP hD hS)
  | ineg =>
    obtain ⟨a, r, rfl, h⟩ := mI1_inv h
    intro H locs ls hl hP hD hS
    exact lv_ineg hx hb hd (hkn _ _ _ _ h H locs ls hl hP hD hS)
  | pop =>
    cases st with
    | nil => exact False.elim h
    | cons v r =>
      intro H locs ls hl hP hD hS
      exact lv_pop hx hb hd (mE_cat ad v) (hkn _ _ _ _ h H locs ls hl hP hD hS)
  | dup =>
    cases st with
    | nil => exact False.elim h
    | cons v r =>
      intro H locs ls hl hP hD hS
      exact lv_dup hx hb hd (mE_cat ad v) (hkn _ _ _ _ h H locs ls hl hP hD hS)
  | dup2 =>
    cases st with
    | nil => exact False.elim h
    | cons v r =>
      cases r with
      | nil => exact False.elim h
      | cons w r =>
        intro H locs ls hl hP hD hS
        exact lv_dup2_11 hx hb hd (mE_cat ad v) (mE_cat ad w) (hkn _ _ _ _ h H locs ls hl hP hD hS)
  | dup_x1 =>
    cases st with
    | nil => exact False.elim h
    | cons v r =>
      cases r with
      | nil => exact False.elim h
      | cons w r =>
        intro H locs ls hl hP hD hS
        exact lv_dup_x1 hx hb hd (mE_cat ad v) (mE_cat ad w) (hkn _ _ _ _ h H locs ls hl hP hD hS)
  | goto off =>
    have h2 : mJ1 tg (fun t => kj t lv st f g) := h
    obtain ⟨q, rfl, h3⟩ := mJ1_inv h2
    intro H locs ls hl hP hD hS
    exact lv_goto hx hb hd (beq_iff_eq.mp hok) (hkj _ _ _ _ _ h3 H locs ls hl hP hD hS)
  | ifCond cnd off =>
    obtain ⟨a, r, rfl, h2⟩ := mI1_inv h
    obtain ⟨q, rfl, h3⟩ := mJ1_inv h2
    intro H locs ls hl hP hD hS
    have kt := fun z => hkj _ _ _ _ _ (h3.1 z) H locs ls hl hP hD hS
    have kf := fun z => hkn _ _ _ _ (h3.2 z) H locs ls hl hP hD hS
    have ht := beq_iff_eq.mp hok
    cases cnd with
    | eq => exact lv_if_eq hx hb hd ht kt kf
    | ne => exact lv_if_ne hx hb hd ht kt kf
    | lt => exact lv_if_lt hx hb hd ht kt kf
    | ge => exact lv_if_ge hx hb hd ht kt kf
    | gt => exact lv_if_gt hx hb hd ht kt kf
    | le => exact lv_if_le hx hb hd ht kt kf
  | if_icmp cnd off =>
    obtain ⟨a, b, r, rfl, h2⟩ := mI2_inv h
    obtain ⟨q, rfl, h3⟩ := mJ1_inv h2
    intro H locs ls hl hP hD hS
    have kt := fun z => hkj _ _ _ _ _ (h3.1 z) H locs ls hl hP hD hS
    have kf := fun z => hkn _ _ _ _ (h3.2 z) H locs ls hl hP hD hS
    have ht := beq_iff_eq.mp hok
    cases cnd with
    | eq => exact lv_icmp_eq hx hb hd ht kt kf
    | ne => exact lv_icmp_ne hx hb hd ht kt kf
    | lt => exact lv_icmp_lt hx hb hd ht kt kf
    | ge => exact lv_icmp_ge hx hb hd ht kt kf
    | gt => exact lv_icmp_gt hx hb hd ht kt kf
    | le => exact lv_icmp_le hx hb hd ht kt kf
  | tableswitch d lo hi offs =>
    obtain ⟨a, r, rfl, h2⟩ := mI1_inv h
    have hok2 := Bool.and_eq_true_iff.mp hok
    have hsz := beq_iff_eq.mp hok2.2
    obtain ⟨t, ht, h3⟩ := mTab_T _ _ _ hok2.1 h2
    intro H locs ls hl hP hD hS
    have k := hkj _ _ _ _ _ ht H locs ls hl hP hD hS
    rcases h3 with ⟨i, off, e1, e2, e3⟩ | ⟨e1, e2⟩
    · have hi := (List.getElem?_eq_some_iff.mp e1).1
      rw [Array.length_toList] at hi
      refine lv_tableIn hx hb hd (by omega) (by omega) (off := off) ?_ e3 k
      rw [e2, show (lo + (i : Int) - lo).toNat = i by omega, ← Array.getElem?_toList]
      exact e1
    · refine lv_tableOut hx hb hd ?_ e2 k
      rcases Int.lt_or_le a.toInt lo with z | z
      · exact Or.inl z
      · right
        rcases Int.lt_or_le hi a.toInt with y | y
        · exact y
        · exfalso
          refine e1 (a.toInt - lo).toNat ?_ (by omega)
          rw [Array.length_toList]
          omega
  | lookupswitch d ps =>
    obtain ⟨a, r, rfl, h2⟩ := mI1_inv h
    have hok2 := Bool.and_eq_true_iff.mp hok
    obtain ⟨t, ht, h3⟩ := mTab_L _ _ hok2.1 h2
    intro H locs ls hl hP hD hS
    exact lv_lookup hx hb hd hok2.2 rfl h3 (hkj _ _ _ _ _ ht H locs ls hl hP hD hS)
  | getfield idx =>
    simp only [mS] at h
    split at h
    · obtain ⟨q, hq, h⟩ := mGf_inv h
      obtain ⟨fl, o, hs, ho, h⟩ := mSc_inv h
      obtain ⟨C, T, N, hc, hkN, hin, hlink, -⟩ := hF q (List.mem_of_getElem? hq)
      have hidx : q.1 = idx := by
        have hz := beq_iff_eq.mp hok
        rw [hFi, List.getElem?_map, hq] at hz
        exact congrArg Prod.fst (Option.some.inj hz)
      subst hidx
      intro H locs ls hl hP hD hS
      cases o with
      | none => exact va_get (v := .int _) hx hb hts hin hown hK hP _ (mW_get hs) hc q.2.2.1 hkN (hts _ hlink) (fun _ h9 => h9) (by rw [mFl_get, ho, Nat.zero_add]; rfl) hd (hkn _ _ _ _ h H locs ls hl hP hD hS)
      | some j' => exact va_get (v := .ref (ad j')) hx hb hts hin hown hK hP _ (mW_get hs) hc q.2.2.1 hkN (hts _ hlink) (fun _ h9 => h9) (by rw [mFl_get, ho]; rfl) hd (hkn _ _ _ _ h H locs ls hl hP hD hS)
    · exact False.elim h
  | putfield idx =>
    simp only [mS] at h
    split at h
    · rename_i v j r
      obtain ⟨q, hq, h⟩ := mGf_inv h
      obtain ⟨fl, o, hs, ho, h⟩ := mSc_inv h
      obtain ⟨C, T, N, hc, hkN, hin, hlink, hput⟩ := hF q (List.mem_of_getElem? hq)
      have hidx : q.1 = idx := by
        have hz := beq_iff_eq.mp hok
        rw [hFi, List.getElem?_map, hq] at hz
        exact congrArg Prod.fst (Option.some.inj hz)
      subst hidx
      intro H locs ls hl hP hD hS
      have hlt : q.2.2.1 < (mFl ad f j 0 fl).length := by rw [mFl_len]; exact (List.getElem?_eq_some_iff.mp ho).1
      have key : ∀ ty : FieldType, (∃ ty0 : Nat → FieldType, (∀ k, k < N → parseFieldDescriptor (T k).2.2.1 = some (ty0 k)) ∧ (∀ a, a < N → ∀ b, b < N → a ≠ b → (T a).2.1 ≠ (T b).2.1) ∧ (T q.2.2.1).2.2.2 = false ∧ parseFieldDescriptor (T q.2.2.1).2.2.1 = some ty) → narrow ty (.int v) = .int v → fits ty (.int v) = true → o = none → kn lv r (upd f (64 * j + q.2.2.1) v) g → W p l e R s m args below meth c H locs cells slots Q (F0 m pc ls ((Sum.inl v :: Sum.inr j :: r).map (mE ad))) := by
        intro ty hp hn hf ho1 hk
        subst ho1
        obtain ⟨ty0, hty, hnm, hfin, hpar⟩ := hp
        refine va_put (v := .int v) hx hb hts hin ty0 hty hnm hown hK hP hD hS _ (mW_get hs) hc q.2.2.1 hkN (hts _ hlink) (fun _ h9 => h9) hfin hpar hn hf hlt hd (fun H1 locs1 hP1 hD1 hS1 => ?_)
        rw [mW_put hsh hs ho] at hP1 hD1
        exact hkn _ _ _ _ hk H1 locs1 ls hl hP1 hD1 hS1
      split at h
      · rename_i hz
        obtain ⟨ty0, a1, a2, a3, a4⟩ := hput (Or.inl hz)
        rw [hz, if_neg (by decide)] at a4
        exact key .int ⟨ty0, a1, a2, a3, a4⟩ rfl rfl rfl h
      · rename_i hz
        obtain ⟨ty0, a1, a2, a3, a4⟩ := hput (Or.inr hz)
        rw [hz, if_pos rfl] at a4
        refine key .boolean ⟨ty0, a1, a2, a3, a4⟩ ?_ ?_ rfl h.2
        · rcases h.1 with rfl | rfl <;> rfl
        · rcases h.1 with rfl | rfl <;> rfl
      · exact False.elim h
    · exact False.elim h
  | iaload =>
    simp only [mS] at h
    split at h
    · obtain ⟨n, hs, hin, h⟩ := mSa_inv h
      intro H locs ls hl hP hD hS
      exact va_iald hx hb hK hP _ 0 (mW_get hs) rfl hin hd (hkn _ _ _ _ h H locs ls hl hP hD hS)
    · exact False.elim h
  | baload =>
    simp only [mS] at h
    split at h
    · obtain ⟨n, hs, hin, h⟩ := mSa_inv h
      intro H locs ls hl hP hD hS
      exact va_zald hx hb hK hP _ 1 (mW_get hs) rfl hin hd (hkn _ _ _ _ h H locs ls hl hP hD hS)
    · exact False.elim h
  | iastore =>
    obtain ⟨v, i, j, r, rfl, h2⟩ := mI3_inv h
    obtain ⟨n, hs, hin, h3⟩ := mSa_inv h2
    intro H locs ls hl hP hD hS
    refine va_iast hx hb hK hP hD hS _ 0 (mW_get hs) rfl hin hd (fun H1 locs1 hP1 hD1 hS1 => ?_)
    rw [mW_arr hs] at hP1 hD1
    exact hkn _ _ _ _ h3 H1 locs1 ls hl hP1 hD1 hS1
  | bastore =>
    obtain ⟨v, i, j, r, rfl, h2⟩ := mI3_inv h
    obtain ⟨n, hs, hin, h3⟩ := mSa_inv h2
    intro H locs ls hl hP hD hS
    refine va_zast hx hb hK hP hD hS _ 1 (mW_get hs) rfl hin hd (fun H1 locs1 hP1 hD1 hS1 => ?_)
    rw [mW_arr hs] at hP1 hD1
    exact hkn _ _ _ _ h3 H1 locs1 ls hl hP1 hD1 hS1
  | arraylength =>
    simp only [mS] at h
    split at h
    · obtain ⟨n, hs, h⟩ := mSa_inv h
      intro H locs ls hl hP hD hS
      exact va_alen (ty := .int) hx hb hK hP _ 0 (mW_get hs) rfl rfl hd (hkn _ _ _ _ h H locs ls hl hP hD hS)
    · exact False.elim h
  | invokevirtual idx =>
    simp only [mS, mIv] at h
    split at h
    · rename_i q hq
      have hz := beq_iff_eq.mp hok
      rw [hCi, List.getElem?_map, hq] at hz
      have hz2 := Option.some.inj hz
      have hidx : q.1 = idx := congrArg Prod.fst hz2
      have h0 : q.2.1 = 0 := congrArg Prod.snd hz2
      subst hidx
      split at h
      · rename_i j r hst
        obtain ⟨⟨fl, hj⟩, h⟩ := mRo_inv h
        by_cases hr : r.length ≤ 8
        · rw [if_pos hr] at h
          exact mCallV F (hC q (List.mem_of_getElem? hq)) h0 hd hcl hsl hst hj hr h (fun v f' g' hk => hkn _ _ _ _ hk)
        · rw [if_neg hr] at h; exact False.elim h
      · exact False.elim h
    · exact False.elim h
  | invokestatic idx =>
    simp only [mS, mIs] at h
    split at h
    · rename_i q hq
      have hz := beq_iff_eq.mp hok
      rw [hCi, List.getElem?_map, hq] at hz
      have hz2 := Option.some.inj hz
      have hidx : q.1 = idx := congrArg Prod.fst hz2
      have h0 : q.2.1 = 1 := congrArg Prod.snd hz2
      subst hidx
      by_cases hlen : q.2.2.1 ≤ st.length
      · rw [if_pos hlen] at h
        by_cases hr : (st.drop q.2.2.1).length ≤ 8
        · rw [if_pos hr] at h
          exact mCallS F (hC q (List.mem_of_getElem? hq)) h0 hd hcl hsl hlen hr h (fun v f' g' hk => hkn _ _ _ _ hk)
        · rw [if_neg hr] at h; exact False.elim h
      · rw [if_neg hlen] at h; exact False.elim h
    · exact False.elim h
  | ireturn =>
    simp only [mS] at h
    split at h
    · exact fun H locs ls hl hP hD hS => hri _ _ _ pc H locs ls h hd hP hD hS
    · exact False.elim h
  | return_ =>
    simp only [mS] at h
    split at h
    · exact fun H locs ls hl hP hD hS => hrv _ _ pc H locs ls h hd hP hD hS
    · exact False.elim h
  | _ => exact False.elim h
theorem mB_sound {Fd : mFt} {Cl : mCt} {Ks : List (Nat × Int32)} {Fi Ci : List (Nat × Nat)} (F : mFx p s m args c cc nL D cl tc sh Ts own A H0) (hF : ∀ q ∈ Fd, mFo cl Ts own q) (hKs : ∀ q ∈ Ks, Jvm.Cond.constant own q.1 q.2 ∈ Ts) (hC : ∀ q ∈ Cl, mCo l D cl ad tc sh Ts own R q) (hFi : Fi = Fd.map (fun q => (q.1, 0))) (hCi : Ci = Cl.map (fun q => (q.1, q.2.1))) (hcl : cells ≤ R.cells) (hsl : slots ≤ R.slots) {kj : Nat → mL → List mV → mFn → mGn → Prop} {kr : mKr} {en : Nat} (hkj : ∀ t lv st f g, kj t lv st f g → mX p l e R s m args below meth c cells slots Q nL D cl ad tc sh A H0 t lv st f g)
    (hri : ∀ v f g pc H locs ls, kr (some (.inl v)) f g → decode cc pc = .ok (.ireturn, 1) → va_P D cl (mW ad tc sh f g) H → va_D A (mW ad tc sh f g) → va_S A H0 H locs → W p l e R s m args below meth c H locs cells slots Q (F0 m pc ls [.int v])) (hrv : ∀ f g pc H locs ls, kr none f g → decode cc pc = .ok (.return_, 1) → va_P D cl (mW ad tc sh f g) H → va_D A (mW ad tc sh f g) → va_S A H0 H locs → W p l e R s m args below meth c H locs cells slots Q (F0 m pc ls [])) : ∀ (is : List mEn) (pc : Nat) (lv : mL) (st : List mV) (f : mFn) (g : mGn), mOkL cc nL Ks Fi Ci en pc is = true → mB sh Fd Cl en kj kr is lv st f g → mX p l e R s m args below meth c cells slots Q nL D cl ad tc sh A H0 pc lv st f g
  | [], pc, lv, st, f, g, ho, h => by
    rw [mOkL, beq_iff_eq] at ho
    rw [ho]
    exact hkj _ _ _ _ _ h
  | q :: r, pc, lv, st, f, g, ho, h => by
    simp only [mOkL, mOkE, Bool.and_eq_true, beq_iff_eq, decide_eq_true_eq] at ho
    obtain ⟨⟨h1, h2, h3⟩, h4⟩ := ho
    rw [h1]
    exact mS_sound F hF hKs hC hFi hCi hcl hsl h h3 h2 (fun lv st f g hk => mB_sound F hF hKs hC hFi hCi hcl hsl hkj hri hrv r _ lv st f g h4 hk) hkj hri hrv
theorem mM_sound {Fd : mFt} {Cl : mCt} {Ks : List (Nat × Int32)} {Fi Ci : List (Nat × Nat)} (F : mFx p s m args c cc nL D cl tc sh Ts own A H0) (hF : ∀ q ∈ Fd, mFo cl Ts own q) (hKs : ∀ q ∈ Ks, Jvm.Cond.constant own q.1 q.2 ∈ Ts) (hC : ∀ q ∈ Cl, mCo l D cl ad tc sh Ts own R q) (hFi : Fi = Fd.map (fun q => (q.1, 0))) (hCi : Ci = Cl.map (fun q => (q.1, q.2.1))) (hcl : cells ≤ R.cells) (hsl : slots ≤ R.slots) {bs : List mBl} (hok : mOkB cc nL Ks Fi Ci bs = true) {av : List mV} {f : mFn} {g : mGn} {kr : mKr} (h : mM sh Fd Cl bs av f g kr)
    (hri : ∀ v f g pc H locs ls, kr (some (.inl v)) f g → decode cc pc = .ok (.ireturn, 1) → va_P D cl (mW ad tc sh f g) H → va_D A (mW ad tc sh f g) → va_S A H0 H locs → W p l e R s m args below meth c H locs cells slots Q (F0 m pc ls [.int v])) (hrv : ∀ f g pc H locs ls, kr none f g → decode cc pc = .ok (.return_, 1) → va_P D cl (mW ad tc sh f g) H → va_D A (mW ad tc sh f g) → va_S A H0 H locs → W p l e R s m args below meth c H locs cells slots Q (F0 m pc ls [])) : mX p l e R s m args below meth c cells slots Q nL D cl ad tc sh A H0 0 (mAr 0 av) [] f g := by
  refine h (mX p l e R s m args below meth c cells slots Q nL D cl ad tc sh A H0) ⟨fun n b hb lv st f g hB => ?_, fun pc lv lv' st f g hsub hX H locs ls hl hP hD hS => hX H locs ls ⟨hl.1, hl.2.1, fun q hq => by obtain ⟨q0, h0, rfl⟩ := List.mem_map.mp hq; exact mLv hl (hsub q0 h0)⟩ hP hD hS⟩
  have ho := List.all_eq_true.mp hok b (List.mem_of_getElem? hb)
  exact mB_sound F hF hKs hC hFi hCi hcl hsl (fun t lv st f g h => h) hri hrv b.2.1 b.1 lv st f g ho hB
end MS2
theorem mAr_map (ad : Nat → Nat) : ∀ (av : List mV) (i : Nat), lv_args i (av.map (mE ad)) = (mAr i av).map (fun q => (q.1, mE ad q.2))
  | [], i => rfl
  | v :: r, i => by
    rw [List.map_cons, lv_args, mE_cat, if_neg (by decide), mAr_map ad r (i + 1)]
    rfl
theorem mLg (ad : Nat → Nat) : ∀ av : List mV, (lg_sl (av.map (mE ad))).length = av.length
  | [] => rfl
  | v :: r => by
    have h := mLg ad r
    unfold lg_sl at h ⊢
    rw [List.map_cons, List.flatMap_cons, List.length_append, h, mE_cat, if_neg (by decide)]
    simp; omega
set_option maxHeartbeats 4000000 in
/-- a method of the steady world: from its tables to its contract -/
theorem mMet_of {l : Launch} {D : va_G} {cl : List vw_C} {ad : Nat → Nat} {tc : Nat → ClassId} {sh : mSh} {Fd : mFt} {Cl : mCt} {Ks : List (Nat × Int32)} {Fi Ci : List (Nat × Nat)} {bs : List mBl} {y : MethodName} {cc : ByteArray} {nL : Nat} {ret : Option FieldType} {ws ws' : List Jvm.Cond} {rm : Room} {own : String} {na : Nat}
    (hw : ws = Jvm.Cond.code y cc nL ret :: ws') (hy : plainName y.cls = true) (hys : y.cls = own) (hsh : mShOk sh = true) (hF : ∀ q ∈ Fd, mFo cl ws own q) (hKs : ∀ q ∈ Ks, Jvm.Cond.constant own q.1 q.2 ∈ ws) (hC : ∀ q ∈ Cl, mCo l D cl ad tc sh ws own rm q) (hFi : Fi = Fd.map (fun q => (q.1, 0))) (hCi : Ci = Cl.map (fun q => (q.1, q.2.1))) (hok : mOkB cc nL Ks Fi Ci bs = true)
    (hna : na ≤ nL) (hret : ret = none ∨ ret = some .int ∨ ret = some .boolean) :
    mMet l D cl ad tc sh y ws rm (mSpOf sh Fd Cl bs na ret) := by
  intro av f g K sz hsp
  obtain ⟨hlen, hsp⟩ := hsp
  refine Met.ofW (cc := cc) (maxL := nL) (ret := ret) hy hw ?_
  intro p e s m args below meth c s₁ B hml hv
  obtain ⟨rfl, hsz, hP, hK, hD0⟩ := hv
  have hx := B.exec
  have hb := B.bytes
  have hr := B.returns
  have hts := atoms_spec (ws := ws) B.pre
  have hown : s.vm.findClass own = some m.cls := by rw [← hys]; exact findClass_of_methodNamed B.named
  have hlocks := B.notSynchronized
  subst hsz
  have hD := hD0.self (sz := s.heap.size)
  generalize hAe : va_A (mW ad tc sh f g) s.heap.size = A at hD ⊢
  have hA : ∀ q : Nat, s.heap.size ≤ q → A q := fun q h => by rw [← hAe]; exact Or.inr h
  have hS : va_S A s.heap s.heap [] := va_S.rf
  have hl := lv_entry (av.map (mE ad)) (n := nL) (by rw [mLg]; omega)
  rw [lg_entry_eq]
  rw [mAr_map] at hl
  refine mM_sound (p := p) (l := l) (e := e) (R := (headSpec ws rm).room) (s := s) (m := m) (below := below) (meth := meth) (c := c) (cells := 0) (slots := 0) (cc := cc) (nL := nL) (D := D) (cl := cl) (ad := ad) (tc := tc) (sh := sh) (A := A) (H0 := s.heap) (Ts := ws) (own := own) (Q := MQ below (mQc D cl ad tc sh K A) (av.map (mE ad)).toArray s 0 0 A) ⟨hx, hb, hml, hown, hts, hK, hsh, hA⟩ hF hKs hC hFi hCi (Nat.zero_le _) (Nat.zero_le _) hok hsp ?_ ?_ s.heap [] _ hl hP hD hS
  · intro v f g pc H locs ls hk hdd hP hD hS
    have hpost : ∀ t : State, t.heap = H → s.WarmedH t.vm → mQc D cl ad tc sh K A (av.map (mE ad)).toArray s (.returned (some (.int v))) t := fun t ht hW => ⟨⟨some (.inl v), f, g, rfl, hk.2, by rw [ht]; exact hP, hD⟩, hS.F ht⟩
    rcases hret with rfl | rfl | rfl
    · exact absurd rfl hk.1.1
    · exact W.iret hx hb hr hpost hS.2.2 hdd
    · exact W.zret hx hb hr (by rcases hk.1.2 rfl with rfl | rfl <;> rfl) hpost hS.2.2 hdd
  · intro f g pc H locs ls hk hdd hP hD hS
    have hpost : ∀ t : State, t.heap = H → s.WarmedH t.vm → mQc D cl ad tc sh K A (av.map (mE ad)).toArray s (.returned none) t := fun t ht hW => ⟨⟨none, f, g, rfl, hk.2, by rw [ht]; exact hP, hD⟩, hS.F ht⟩
    have hn : ret = none := hk.1
    subst hn
    exact W.vret hx hb hr hpost hS.2.2 hdd
