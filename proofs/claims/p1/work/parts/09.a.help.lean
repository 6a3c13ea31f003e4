/-! the law's helpers: a call that may refuse, and its catch -/
def wH0 : List Jvm.Cond := [.methodLink RL 7 yX8_run,
  .instanceMethod yX8_run,
  .selects RX8 yX8_run yX8_run,
  .classLink RL 13 "java/lang/IllegalArgumentException",
  .methodLink RL 15 yX8_pass,
  .instanceMethod yX8_pass,
  .selects RX8 yX8_pass yX8_pass,
  .methodLink RL 18 yX8_got,
  .instanceMethod yX8_got,
  .selects RX8 yX8_got yX8_got,
  .classLink RL 21 "java/util/NoSuchElementException",
  .methodLink RL 23 yX8_burn,
  .instanceMethod yX8_burn,
  .selects RX8 yX8_burn yX8_burn,
  .classLink RL 27 "java/lang/IndexOutOfBoundsException",
  .methodLink RL 29 yX8_word,
  .instanceMethod yX8_word,
  .selects RX8 yX8_word yX8_word,
  .methodLink RL 32 yX8_data,
  .instanceMethod yX8_data,
  .selects RX8 yX8_data yX8_data,
  .methodLink RL 35 yX8_put,
  .instanceMethod yX8_put,
  .selects RX8 yX8_put yX8_put,
  .methodLink RL 39 yX8_eeprom,
  .instanceMethod yX8_eeprom,
  .selects RX8 yX8_eeprom yX8_eeprom,
  .methodLink RL 42 yX8_start,
  .instanceMethod yX8_start,
  .selects RX8 yX8_start yX8_start,
  .methodLink RL 46 yX8_about,
  .instanceMethod yX8_about,
  .selects RX8 yX8_about yX8_about]
abbrev wH : List Jvm.Cond := wH0 ++ wT
set_option maxRecDepth 100000 in
theorem goodH : wH.all goodWord = true := by decide +kernel
theorem wH_T : ∀ w ∈ wT, w ∈ wH := fun _ h => List.mem_append_right _ h
theorem wH_C : ∀ w ∈ wC, w ∈ wH := fun _ h => List.mem_append_right _ (wT_C h)
def outW (cA : ClassId) (o : Nat) (w : Nat → Int64) : va_W := [(o, .inl (cA, 1, .inr (.inl w)))]
def hTw (is sa : Nat) (tx cls : String) (A : Nat → Prop) (U : State) (H : Heap) : Prop := vx_Zq Bundle.tN "UNASSIGNED_STACK" Bundle.steD A U H ∧ vx_Zq Bundle.tN "SUPPRESSED_SENTINEL" Bundle.listD A U H ∧ vk_R RX8 is tx sa U ∧ ∀ w ∈ vTb cls, va_Nw w U
def hPc (D : va_G) (ad : Nat → Nat) (tc : Nat → ClassId) (as : List Value) (cA : ClassId) (o : Nat) (f : mFn) (g : mGn) (w : Nat → Int64) (sz is sa : Nat) (tx cls : String) : Array Value → State → Prop :=
  va_Pc as (fun U => U.heap.size = sz ∧ va_P D vwCl (mW ad tc shC f g ++ outW cA o w) U.heap ∧ va_K D vwCl (mTy tc) U ∧ va_K D vwCl [(cA, .long)] U ∧ va_D (fun _ => True) (mW ad tc shC f g ++ outW cA o w) ∧ hTw is sa tx cls (va_A (mW ad tc shC f g ++ outW cA o w) sz) U U.heap)
theorem hTw.at {is sa : Nat} {tx cls : String} {A0 A1 : Nat → Prop} {s U : State} {H : Heap} {locs : List Loc} (h : hTw is sa tx cls A0 s s.heap) (hS : va_S A0 s.heap H locs) (hA : ∀ q, A1 q → A0 q) (hU : U.heap = H) (hW : s.WarmedH U.vm) : hTw is sa tx cls A1 U U.heap := by
  obtain ⟨h1, h2, h3, h4⟩ := h
  rw [hU]
  exact ⟨(vx_Zq.moved hW.alike (h1.kept hS.2.1)).narrow hA, (vx_Zq.moved hW.alike (h2.kept hS.2.1)).narrow hA, vk_R.warm hW h3, vTb_warm hW h4⟩
theorem hPc_blind {D : va_G} {ad : Nat → Nat} {tc : Nat → ClassId} {as : List Value} {cA : ClassId} {o : Nat} {f : mFn} {g : mGn} {w : Nat → Int64} {sz is sa : Nat} {tx cls : String} : FrameBlind (hPc D ad tc as cA o f g w sz is sa tx cls) := fun a U g2 mk q => by
  obtain ⟨q0, q1, qP, qK, qK2, qD, z1, z2, z3, z4⟩ := q
  refine ⟨q0, q1, qP, va_K.moved (u := U) (U := U.calling g2 mk a) (Vm.Alike.refl U.vm) qK, va_K.moved (u := U) (U := U.calling g2 mk a) (Vm.Alike.refl U.vm) qK2, qD, vx_Zq.moved (u := U) (U := U.calling g2 mk a) (Vm.Alike.refl U.vm) z1, vx_Zq.moved (u := U) (U := U.calling g2 mk a) (Vm.Alike.refl U.vm) z2, vk_R.same rfl z3, fun w hw => va_Nw.same (u := U) (U := U.calling g2 mk a) (vTb_on _ w hw) rfl (z4 w hw)⟩
abbrev hKr : Type := Int32 → mFn → mGn → (Nat → Int64) → Prop
def hQc (D : va_G) (ad : Nat → Nat) (tc : Nat → ClassId) (cA : ClassId) (o : Nat) (K : hKr) (A : Nat → Prop) : Array Value → State → Outcome → State → Prop := fun _ st oc t =>
  (∃ (k : Int32) (f : mFn) (g : mGn) (w : Nat → Int64), oc = .returned (some (.int k)) ∧ K k f g w ∧ va_P D vwCl (mW ad tc shC f g ++ outW cA o w) t.heap ∧ va_D A (mW ad tc shC f g ++ outW cA o w)) ∧ va_F A st t
section VHY
variable {p : Program} {l : Launch} {e : Env} {R : Room} {s : State} {m : MethodId} {args : Array Value} {below : List Frame} {meth : Method} {c : Code} {H : Heap} {locs : List Loc} {cells slots : Nat} {Q : State → Prop} {cc : ByteArray} {nL : Nat} {Ts : List Jvm.Cond} {own : String}
theorem vCaughtY {cls : String} {pc h b e0 k0 k : Nat} {ls : Array Slot} {rest : List Value} {lv : List (Nat × Value)} {ce : Cell} {q9 : Addr}
    (hx : p.tables.exec = Jvm.exec) (hb : c.code = cc) (hown : s.vm.findClass own = some m.cls) (hts : ∀ w ∈ Ts, w.before args s = true)
    (htab : c.exceptionTable.toList = [⟨b, e0, h, k0⟩]) (hcov : covers ⟨b, e0, h, k0⟩ pc = true) (hk0 : k0 ≠ 0) (hlink : Jvm.Cond.classLink own k0 cls ∈ Ts) (hB : va_Nw (.castable cls cls) s)
    (hcell : H[q9]? = some ce) (hv : ce.vm = .none) (hcl : s.vm.findClass cls = some ce.cls)
    (d0 : decode cc h = .ok (.astore k, 2)) (d1 : decode cc (h + 2) = .ok (.iconst 1, 1)) (hl : lv_has ls nL lv) (hkn : k < nL)
    (kk : ∀ ls' : Array Slot, W p l e R s m args below meth c H locs cells slots Q (F0 m (h + 2 + 1) ls' [.int 1])) :
    vx_W p l e R s m args below meth c H locs cells slots Q (F0 m pc ls rest) q9 := by
  refine vx_catch (own := own) (name := cls) (E := cls) hown [] ⟨b, e0, h, k0⟩ [] (by rw [htab]; rfl) (fun z hz => nomatch hz) hcov hk0 (hts _ hlink) (va_Nw.use rfl hB) hcell hv hcl ?_
  exact lv_astore hx hb d0 hl hkn rfl (fun ls' _ => lv_iconst hx hb d1 (by decide) (kk ls'))
theorem vCaughtZ {cls : String} {pc h b e0 k0 : Nat} {k : Fin 4} {ls : Array Slot} {rest : List Value} {lv : List (Nat × Value)} {ce : Cell} {q9 : Addr}
    (hx : p.tables.exec = Jvm.exec) (hb : c.code = cc) (hown : s.vm.findClass own = some m.cls) (hts : ∀ w ∈ Ts, w.before args s = true)
    (htab : c.exceptionTable.toList = [⟨b, e0, h, k0⟩]) (hcov : covers ⟨b, e0, h, k0⟩ pc = true) (hk0 : k0 ≠ 0) (hlink : Jvm.Cond.classLink own k0 cls ∈ Ts) (hB : va_Nw (.castable cls cls) s)
    (hcell : H[q9]? = some ce) (hv : ce.vm = .none) (hcl : s.vm.findClass cls = some ce.cls)
    (d0 : decode cc h = .ok (.astore_n k, 1)) (d1 : decode cc (h + 1) = .ok (.iconst 1, 1)) (hl : lv_has ls nL lv) (hkn : (k : Nat) < nL)
    (kk : ∀ ls' : Array Slot, W p l e R s m args below meth c H locs cells slots Q (F0 m (h + 1 + 1) ls' [.int 1])) :
    vx_W p l e R s m args below meth c H locs cells slots Q (F0 m pc ls rest) q9 := by
  refine vx_catch (own := own) (name := cls) (E := cls) hown [] ⟨b, e0, h, k0⟩ [] (by rw [htab]; rfl) (fun z hz => nomatch hz) hcov hk0 (hts _ hlink) (va_Nw.use rfl hB) hcell hv hcl ?_
  exact lv_astore_n hx hb d0 rfl hl hkn rfl (fun ls' _ => lv_iconst hx hb d1 (by decide) (kk ls'))
end VHY
theorem dL_run_0 : decode cL_run 0 = .ok (.aload_n 2, 1) := by decide +kernel
theorem dL_run_1 : decode cL_run 1 = .ok (.iconst 0, 1) := by decide +kernel
theorem dL_run_2 : decode cL_run 2 = .ok (.aload_n 0, 1) := by decide +kernel
theorem dL_run_3 : decode cL_run 3 = .ok (.iload_n 1, 1) := by decide +kernel
theorem dL_run_4 : decode cL_run 4 = .ok (.invokevirtual 7, 3) := by decide +kernel
theorem dL_run_7 : decode cL_run 7 = .ok (.i2l, 1) := by decide +kernel
theorem dL_run_8 : decode cL_run 8 = .ok (.lastore, 1) := by decide +kernel
theorem dL_run_9 : decode cL_run 9 = .ok (.goto 6, 3) := by decide +kernel
theorem dL_run_12 : decode cL_run 12 = .ok (.astore_n 3, 1) := by decide +kernel
theorem dL_run_13 : decode cL_run 13 = .ok (.iconst 1, 1) := by decide +kernel
theorem dL_run_14 : decode cL_run 14 = .ok (.ireturn, 1) := by decide +kernel
theorem dL_run_15 : decode cL_run 15 = .ok (.iconst 0, 1) := by decide +kernel
theorem dL_run_16 : decode cL_run 16 = .ok (.ireturn, 1) := by decide +kernel
theorem dL_pass_0 : decode cL_pass 0 = .ok (.aload_n 2, 1) := by decide +kernel
theorem dL_pass_1 : decode cL_pass 1 = .ok (.iconst 0, 1) := by decide +kernel
theorem dL_pass_2 : decode cL_pass 2 = .ok (.aload_n 0, 1) := by decide +kernel
theorem dL_pass_3 : decode cL_pass 3 = .ok (.iload_n 1, 1) := by decide +kernel
theorem dL_pass_4 : decode cL_pass 4 = .ok (.invokevirtual 15, 3) := by decide +kernel
theorem dL_pass_7 : decode cL_pass 7 = .ok (.i2l, 1) := by decide +kernel
theorem dL_pass_8 : decode cL_pass 8 = .ok (.lastore, 1) := by decide +kernel
theorem dL_pass_9 : decode cL_pass 9 = .ok (.goto 6, 3) := by decide +kernel
theorem dL_pass_12 : decode cL_pass 12 = .ok (.astore_n 3, 1) := by decide +kernel
theorem dL_pass_13 : decode cL_pass 13 = .ok (.iconst 1, 1) := by decide +kernel
theorem dL_pass_14 : decode cL_pass 14 = .ok (.ireturn, 1) := by decide +kernel
theorem dL_pass_15 : decode cL_pass 15 = .ok (.iconst 0, 1) := by decide +kernel
theorem dL_pass_16 : decode cL_pass 16 = .ok (.ireturn, 1) := by decide +kernel
theorem dL_got_0 : decode cL_got 0 = .ok (.aload_n 2, 1) := by decide +kernel
theorem dL_got_1 : decode cL_got 1 = .ok (.iconst 0, 1) := by decide +kernel
theorem dL_got_2 : decode cL_got 2 = .ok (.aload_n 0, 1) := by decide +kernel
theorem dL_got_3 : decode cL_got 3 = .ok (.iload_n 1, 1) := by decide +kernel
theorem dL_got_4 : decode cL_got 4 = .ok (.invokevirtual 18, 3) := by decide +kernel
theorem dL_got_7 : decode cL_got 7 = .ok (.i2l, 1) := by decide +kernel
theorem dL_got_8 : decode cL_got 8 = .ok (.lastore, 1) := by decide +kernel
theorem dL_got_9 : decode cL_got 9 = .ok (.goto 6, 3) := by decide +kernel
theorem dL_got_12 : decode cL_got 12 = .ok (.astore_n 3, 1) := by decide +kernel
theorem dL_got_13 : decode cL_got 13 = .ok (.iconst 1, 1) := by decide +kernel
theorem dL_got_14 : decode cL_got 14 = .ok (.ireturn, 1) := by decide +kernel
theorem dL_got_15 : decode cL_got 15 = .ok (.iconst 0, 1) := by decide +kernel
theorem dL_got_16 : decode cL_got 16 = .ok (.ireturn, 1) := by decide +kernel
theorem dL_burn_0 : decode cL_burn 0 = .ok (.aload 7, 2) := by decide +kernel
theorem dL_burn_2 : decode cL_burn 2 = .ok (.iconst 0, 1) := by decide +kernel
theorem dL_burn_3 : decode cL_burn 3 = .ok (.aload_n 0, 1) := by decide +kernel
theorem dL_burn_4 : decode cL_burn 4 = .ok (.iload_n 1, 1) := by decide +kernel
theorem dL_burn_5 : decode cL_burn 5 = .ok (.iload_n 2, 1) := by decide +kernel
theorem dL_burn_6 : decode cL_burn 6 = .ok (.iload_n 3, 1) := by decide +kernel
theorem dL_burn_7 : decode cL_burn 7 = .ok (.iload 4, 2) := by decide +kernel
theorem dL_burn_9 : decode cL_burn 9 = .ok (.iload 5, 2) := by decide +kernel
theorem dL_burn_11 : decode cL_burn 11 = .ok (.iload 6, 2) := by decide +kernel
theorem dL_burn_13 : decode cL_burn 13 = .ok (.invokevirtual 23, 3) := by decide +kernel
theorem dL_burn_16 : decode cL_burn 16 = .ok (.i2l, 1) := by decide +kernel
theorem dL_burn_17 : decode cL_burn 17 = .ok (.lastore, 1) := by decide +kernel
theorem dL_burn_18 : decode cL_burn 18 = .ok (.goto 7, 3) := by decide +kernel
theorem dL_burn_21 : decode cL_burn 21 = .ok (.astore 8, 2) := by decide +kernel
theorem dL_burn_23 : decode cL_burn 23 = .ok (.iconst 1, 1) := by decide +kernel
theorem dL_burn_24 : decode cL_burn 24 = .ok (.ireturn, 1) := by decide +kernel
theorem dL_burn_25 : decode cL_burn 25 = .ok (.iconst 0, 1) := by decide +kernel
theorem dL_burn_26 : decode cL_burn 26 = .ok (.ireturn, 1) := by decide +kernel
theorem dL_word_0 : decode cL_word 0 = .ok (.aload_n 2, 1) := by decide +kernel
theorem dL_word_1 : decode cL_word 1 = .ok (.iconst 0, 1) := by decide +kernel
theorem dL_word_2 : decode cL_word 2 = .ok (.aload_n 0, 1) := by decide +kernel
theorem dL_word_3 : decode cL_word 3 = .ok (.iload_n 1, 1) := by decide +kernel
theorem dL_word_4 : decode cL_word 4 = .ok (.invokevirtual 29, 3) := by decide +kernel
theorem dL_word_7 : decode cL_word 7 = .ok (.i2l, 1) := by decide +kernel
theorem dL_word_8 : decode cL_word 8 = .ok (.lastore, 1) := by decide +kernel
theorem dL_word_9 : decode cL_word 9 = .ok (.goto 6, 3) := by decide +kernel
theorem dL_word_12 : decode cL_word 12 = .ok (.astore_n 3, 1) := by decide +kernel
theorem dL_word_13 : decode cL_word 13 = .ok (.iconst 1, 1) := by decide +kernel
theorem dL_word_14 : decode cL_word 14 = .ok (.ireturn, 1) := by decide +kernel
theorem dL_word_15 : decode cL_word 15 = .ok (.iconst 0, 1) := by decide +kernel
theorem dL_word_16 : decode cL_word 16 = .ok (.ireturn, 1) := by decide +kernel
theorem dL_data_0 : decode cL_data 0 = .ok (.aload_n 2, 1) := by decide +kernel
theorem dL_data_1 : decode cL_data 1 = .ok (.iconst 0, 1) := by decide +kernel
theorem dL_data_2 : decode cL_data 2 = .ok (.aload_n 0, 1) := by decide +kernel
theorem dL_data_3 : decode cL_data 3 = .ok (.iload_n 1, 1) := by decide +kernel
theorem dL_data_4 : decode cL_data 4 = .ok (.invokevirtual 32, 3) := by decide +kernel
theorem dL_data_7 : decode cL_data 7 = .ok (.i2l, 1) := by decide +kernel
theorem dL_data_8 : decode cL_data 8 = .ok (.lastore, 1) := by decide +kernel
theorem dL_data_9 : decode cL_data 9 = .ok (.goto 6, 3) := by decide +kernel
theorem dL_data_12 : decode cL_data 12 = .ok (.astore_n 3, 1) := by decide +kernel
theorem dL_data_13 : decode cL_data 13 = .ok (.iconst 1, 1) := by decide +kernel
theorem dL_data_14 : decode cL_data 14 = .ok (.ireturn, 1) := by decide +kernel
theorem dL_data_15 : decode cL_data 15 = .ok (.iconst 0, 1) := by decide +kernel
theorem dL_data_16 : decode cL_data 16 = .ok (.ireturn, 1) := by decide +kernel
theorem dL_put_0 : decode cL_put 0 = .ok (.aload_n 0, 1) := by decide +kernel
theorem dL_put_1 : decode cL_put 1 = .ok (.iload_n 1, 1) := by decide +kernel
theorem dL_put_2 : decode cL_put 2 = .ok (.iload_n 2, 1) := by decide +kernel
theorem dL_put_3 : decode cL_put 3 = .ok (.invokevirtual 35, 3) := by decide +kernel
theorem dL_put_6 : decode cL_put 6 = .ok (.goto 6, 3) := by decide +kernel
theorem dL_put_9 : decode cL_put 9 = .ok (.astore_n 3, 1) := by decide +kernel
theorem dL_put_10 : decode cL_put 10 = .ok (.iconst 1, 1) := by decide +kernel
theorem dL_put_11 : decode cL_put 11 = .ok (.ireturn, 1) := by decide +kernel
theorem dL_put_12 : decode cL_put 12 = .ok (.iconst 0, 1) := by decide +kernel
theorem dL_put_13 : decode cL_put 13 = .ok (.ireturn, 1) := by decide +kernel
theorem dL_eeprom_0 : decode cL_eeprom 0 = .ok (.aload_n 2, 1) := by decide +kernel
theorem dL_eeprom_1 : decode cL_eeprom 1 = .ok (.iconst 0, 1) := by decide +kernel
theorem dL_eeprom_2 : decode cL_eeprom 2 = .ok (.aload_n 0, 1) := by decide +kernel
theorem dL_eeprom_3 : decode cL_eeprom 3 = .ok (.iload_n 1, 1) := by decide +kernel
theorem dL_eeprom_4 : decode cL_eeprom 4 = .ok (.invokevirtual 39, 3) := by decide +kernel
theorem dL_eeprom_7 : decode cL_eeprom 7 = .ok (.i2l, 1) := by decide +kernel
theorem dL_eeprom_8 : decode cL_eeprom 8 = .ok (.lastore, 1) := by decide +kernel
theorem dL_eeprom_9 : decode cL_eeprom 9 = .ok (.goto 6, 3) := by decide +kernel
theorem dL_eeprom_12 : decode cL_eeprom 12 = .ok (.astore_n 3, 1) := by decide +kernel
theorem dL_eeprom_13 : decode cL_eeprom 13 = .ok (.iconst 1, 1) := by decide +kernel
theorem dL_eeprom_14 : decode cL_eeprom 14 = .ok (.ireturn, 1) := by decide +kernel
theorem dL_eeprom_15 : decode cL_eeprom 15 = .ok (.iconst 0, 1) := by decide +kernel
theorem dL_eeprom_16 : decode cL_eeprom 16 = .ok (.ireturn, 1) := by decide +kernel
theorem dL_start_0 : decode cL_start 0 = .ok (.aload_n 0, 1) := by decide +kernel
theorem dL_start_1 : decode cL_start 1 = .ok (.iload_n 1, 1) := by decide +kernel
theorem dL_start_2 : decode cL_start 2 = .ok (.invokevirtual 42, 3) := by decide +kernel
theorem dL_start_5 : decode cL_start 5 = .ok (.goto 6, 3) := by decide +kernel
theorem dL_start_8 : decode cL_start 8 = .ok (.astore_n 2, 1) := by decide +kernel
theorem dL_start_9 : decode cL_start 9 = .ok (.iconst 1, 1) := by decide +kernel
theorem dL_start_10 : decode cL_start 10 = .ok (.ireturn, 1) := by decide +kernel
theorem dL_start_11 : decode cL_start 11 = .ok (.iconst 0, 1) := by decide +kernel
theorem dL_start_12 : decode cL_start 12 = .ok (.ireturn, 1) := by decide +kernel
theorem dL_about_0 : decode cL_about 0 = .ok (.aload_n 2, 1) := by decide +kernel
theorem dL_about_1 : decode cL_about 1 = .ok (.iconst 0, 1) := by decide +kernel
theorem dL_about_2 : decode cL_about 2 = .ok (.aload_n 0, 1) := by decide +kernel
theorem dL_about_3 : decode cL_about 3 = .ok (.iload_n 1, 1) := by decide +kernel
theorem dL_about_4 : decode cL_about 4 = .ok (.invokevirtual 46, 3) := by decide +kernel
theorem dL_about_7 : decode cL_about 7 = .ok (.i2l, 1) := by decide +kernel
theorem dL_about_8 : decode cL_about 8 = .ok (.lastore, 1) := by decide +kernel
theorem dL_about_9 : decode cL_about 9 = .ok (.goto 6, 3) := by decide +kernel
theorem dL_about_12 : decode cL_about 12 = .ok (.astore_n 3, 1) := by decide +kernel
theorem dL_about_13 : decode cL_about 13 = .ok (.iconst 1, 1) := by decide +kernel
theorem dL_about_14 : decode cL_about 14 = .ok (.ireturn, 1) := by decide +kernel
theorem dL_about_15 : decode cL_about 15 = .ok (.iconst 0, 1) := by decide +kernel
theorem dL_about_16 : decode cL_about 16 = .ok (.ireturn, 1) := by decide +kernel
set_option maxHeartbeats 4000000 in
set_option maxRecDepth 100000 in
theorem hlp_run (l : Launch) (hls : l.stackTraces = false) (D : va_G) (ad : Nat → Nat) (tc : Nat → ClassId) (cA : ClassId) (o sa : Nat) {f : mFn} {g : mGn} {w : Nat → Int64} (sz : Nat) {K : hKr} {x1 : Int32} (h1 : rg 1 5000 x1 → spX8_run [.inr 0, .inl x1] f g (fun r f1 g1 => ∃ y, r = some (.inl y) ∧ K 0 f1 g1 (vp_updL w 0 y.toInt64))) (h2 : ¬ rg 1 5000 x1 → K 1 f g w) :
    vx_Met l yL_run (.codeWith yL_run cL_run 4 (some .int) [(0, 9, 12, 13)] :: wH) ({ frames := 20, cells := 1, slots := 6, locals := 400 } : Room) (hPc D ad tc [.ref (ad 0), .int x1, .ref o] cA o f g w sz 39 sa "n is not 1 .. 5000" "java/lang/IllegalArgumentException") (hQc D ad tc cA o K (va_A (mW ad tc shC f g ++ outW cA o w) sz)) (fun _ _ _ => False) 1 6 (va_A (mW ad tc shC f g ++ outW cA o w) sz) := by
  refine vx_ofWH (cc := cL_run) (maxL := 4) (ret := (some .int)) (hh := [(0, 9, 12, 13)]) (by decide +kernel) rfl ?_
  intro p e s m args below meth c s₁ B hml hv
  obtain ⟨rfl, hsz, hP, hK, hK2, hD0, hU, hN, hZ, hB9⟩ := hv
  have hx := B.exec
  have hb := B.bytes
  have hr := B.returns
  have hts := atoms_spec (ws := .codeWith yL_run cL_run 4 (some .int) [(0, 9, 12, 13)] :: wH) B.pre
  have hown : s.vm.findClass RL = some m.cls := findClass_of_methodNamed B.named
  have hlocks := B.notSynchronized
  have htab : c.exceptionTable.toList = [⟨0, 9, 12, 13⟩] := vx_table (x := yL_run) B (hts _ List.mem_cons_self)
  subst hsz
  have hD := hD0.self (sz := s.heap.size)
  generalize hAe : va_A (mW ad tc shC f g ++ outW cA o w) s.heap.size = A at hD hU hN ⊢
  have hA : ∀ q : Nat, s.heap.size ≤ q → A q := fun q h => by rw [← hAe]; exact Or.inr h
  have hS : va_S A s.heap s.heap [] := va_S.rf
  have hl := lv_entry ([.ref (ad 0), .int x1, .ref o]) (n := 4) (Nat.le_of_ble_eq_true rfl)
  rw [lg_entry_eq]
  generalize (lg_sl ([.ref (ad 0), .int x1, .ref o]) ++ List.replicate (4 - (lg_sl ([.ref (ad 0), .int x1, .ref o])).length) Slot.unset).toArray = ls at hl ⊢
  have hl : lv_has ls 4 [(0, .ref (ad 0)), (1, .int x1), (2, .ref o)] := hl
  refine lv_aload_n hx hb dL_run_0 rfl (lv_at hl 2 rfl) ?_
  refine lv_iconst (v := 0) hx hb dL_run_1 (by decide) ?_
  refine lv_aload_n hx hb dL_run_2 rfl (lv_at hl 0 rfl) ?_
  refine lv_iload_n hx hb dL_run_3 rfl (lv_at hl 1 rfl) ?_
  by_cases hr1 : rg 1 5000 x1
  · refine vCallR (W2 := outW cA o w) (ad := ad) (sh := shC) (f := f) (g := g) (av := [.inl x1]) (rest := [.int 0, .ref o]) (j := 0) (n := 1) (rm := rmX8_run) (metX8_run l D ad tc) (h1 hr1) hx hb hml hown hts hK (ci := 11) rfl (nGoodV goodH wH_C (List.mem_append_left _ (List.mem_of_getElem? (i := 0) (by decide +kernel))) (List.mem_append_left _ (List.mem_of_getElem? (i := 1) (by decide +kernel))) (List.mem_append_left _ (List.mem_of_getElem? (i := 2) (by decide +kernel))) (List.mem_append_right _ (wT_C (mAt (i := 484) (by decide +kernel)))) (List.mem_append_right _ (wT_C (mAt (i := 546) (by decide +kernel))))) rfl rfl rfl (by decide +kernel) (by decide) rfl rfl hl.1 (Nat.le_of_ble_eq_true rfl) dL_run_4 (by decide) (by decide) hP hD hS hA (fun r f1 g1 H locs hk hP hD hS => ?_)
    obtain ⟨y, rfl, hk⟩ := hk
    refine vOutR (W1 := mW ad tc shC f1 g1) (W3 := []) (tgt := 15) hx hb hK2 hP hD hS dL_run_7 dL_run_8 dL_run_9 (by decide) dL_run_15 (fun H locs hP hD hS => ?_)
    exact W.widen (k := 1) (n := 6) (by decide) (by decide) (vx_ret (W.iret (v := 0) hx hb hr (fun t ht hW => ⟨⟨0, f1, g1, _, rfl, hk, by rw [ht]; exact hP, hD⟩, hS.F ht⟩) hS.2.2 dL_run_16))
  · refine vCallX (ad := ad) (sh := shC) (f := f) (g := g) (av := [.inl x1]) (rest := [.int 0, .ref o]) (j := 0) (n := 1) (rm := rtX8_run) (ws := wtX8_run) (thX8_run l hls D ad tc (sa := sa) (rdX8_run hr1)) hx hb hml hown hts hK (ci := 11) rfl (nGoodV goodH wH_T (List.mem_append_left _ (List.mem_of_getElem? (i := 0) (by decide +kernel))) (List.mem_append_left _ (List.mem_of_getElem? (i := 1) (by decide +kernel))) (List.mem_append_left _ (List.mem_of_getElem? (i := 2) (by decide +kernel))) (List.mem_append_right _ (wT_C (mAt (i := 484) (by decide +kernel)))) (List.mem_append_right _ (wT_C (mAt (i := 546) (by decide +kernel))))) rfl rfl rfl (by decide +kernel) (by decide) rfl rfl hl.1 (Nat.le_of_ble_eq_true rfl) dL_run_4 (by decide) (by decide) tA_sub hU hN hZ hB9 (vP1 hP) (vD1 hD) hS hA (fun ce q9 H1 locs1 hP1 hz hk1 hS hce hcv hcl => ?_)
    obtain ⟨hP, hD⟩ := vRest hP hD hP1 hk1
    refine vCaughtZ (own := RL) (cls := "java/lang/IllegalArgumentException") hx hb hown hts htab (by decide) (by decide) (mIn (List.mem_append_left _ (List.mem_of_getElem? (i := 3) (by decide +kernel)))) (hB9 _ List.mem_cons_self) hce hcv hcl dL_run_12 dL_run_13 hl (by decide) (fun ls => ?_)
    exact vx_ret (W.iret (v := 1) hx hb hr (fun t ht hW => ⟨⟨1, f, g, w, rfl, h2 hr1, by rw [ht]; exact hP, hD⟩, hS.F ht⟩) hS.2.2 dL_run_14)
set_option maxHeartbeats 4000000 in
set_option maxRecDepth 100000 in
theorem hlp_pass (l : Launch) (hls : l.stackTraces = false) (D : va_G) (ad : Nat → Nat) (tc : Nat → ClassId) (cA : ClassId) (o sa : Nat) {f : mFn} {g : mGn} {w : Nat → Int64} (sz : Nat) {K : hKr} {x1 : Int32} (h1 : rg 1 200000 x1 → spX8_pass [.inr 0, .inl x1] f g (fun r f1 g1 => ∃ y, r = some (.inl y) ∧ K 0 f1 g1 (vp_updL w 0 y.toInt64))) (h2 : ¬ rg 1 200000 x1 → K 1 f g w) :
    vx_Met l yL_pass (.codeWith yL_pass cL_pass 4 (some .int) [(0, 9, 12, 13)] :: wH) ({ frames := 20, cells := 1, slots := 6, locals := 400 } : Room) (hPc D ad tc [.ref (ad 0), .int x1, .ref o] cA o f g w sz 45 sa "n is not 1 .. 200000" "java/lang/IllegalArgumentException") (hQc D ad tc cA o K (va_A (mW ad tc shC f g ++ outW cA o w) sz)) (fun _ _ _ => False) 1 6 (va_A (mW ad tc shC f g ++ outW cA o w) sz) := by
  refine vx_ofWH (cc := cL_pass) (maxL := 4) (ret := (some .int)) (hh := [(0, 9, 12, 13)]) (by decide +kernel) rfl ?_
  intro p e s m args below meth c s₁ B hml hv
  obtain ⟨rfl, hsz, hP, hK, hK2, hD0, hU, hN, hZ, hB9⟩ := hv
  have hx := B.exec
  have hb := B.bytes
  have hr := B.returns
  have hts := atoms_spec (ws := .codeWith yL_pass cL_pass 4 (some .int) [(0, 9, 12, 13)] :: wH) B.pre
  have hown : s.vm.findClass RL = some m.cls := findClass_of_methodNamed B.named
  have hlocks := B.notSynchronized
  have htab : c.exceptionTable.toList = [⟨0, 9, 12, 13⟩] := vx_table (x := yL_pass) B (hts _ List.mem_cons_self)
  subst hsz
  have hD := hD0.self (sz := s.heap.size)
  generalize hAe : va_A (mW ad tc shC f g ++ outW cA o w) s.heap.size = A at hD hU hN ⊢
  have hA : ∀ q : Nat, s.heap.size ≤ q → A q := fun q h => by rw [← hAe]; exact Or.inr h
  have hS : va_S A s.heap s.heap [] := va_S.rf
  have hl := lv_entry ([.ref (ad 0), .int x1, .ref o]) (n := 4) (Nat.le_of_ble_eq_true rfl)
  rw [lg_entry_eq]
  generalize (lg_sl ([.ref (ad 0), .int x1, .ref o]) ++ List.replicate (4 - (lg_sl ([.ref (ad 0), .int x1, .ref o])).length) Slot.unset).toArray = ls at hl ⊢
  have hl : lv_has ls 4 [(0, .ref (ad 0)), (1, .int x1), (2, .ref o)] := hl
  refine lv_aload_n hx hb dL_pass_0 rfl (lv_at hl 2 rfl) ?_
  refine lv_iconst (v := 0) hx hb dL_pass_1 (by decide) ?_
  refine lv_aload_n hx hb dL_pass_2 rfl (lv_at hl 0 rfl) ?_
  refine lv_iload_n hx hb dL_pass_3 rfl (lv_at hl 1 rfl) ?_
  by_cases hr1 : rg 1 200000 x1
  · refine vCallR (W2 := outW cA o w) (ad := ad) (sh := shC) (f := f) (g := g) (av := [.inl x1]) (rest := [.int 0, .ref o]) (j := 0) (n := 1) (rm := rmX8_pass) (metX8_pass l D ad tc) (h1 hr1) hx hb hml hown hts hK (ci := 11) rfl (nGoodV goodH wH_C (List.mem_append_left _ (List.mem_of_getElem? (i := 4) (by decide +kernel))) (List.mem_append_left _ (List.mem_of_getElem? (i := 5) (by decide +kernel))) (List.mem_append_left _ (List.mem_of_getElem? (i := 6) (by decide +kernel))) (List.mem_append_right _ (wT_C (mAt (i := 484) (by decide +kernel)))) (List.mem_append_right _ (wT_C (mAt (i := 533) (by decide +kernel))))) rfl rfl rfl (by decide +kernel) (by decide) rfl rfl hl.1 (Nat.le_of_ble_eq_true rfl) dL_pass_4 (by decide) (by decide) hP hD hS hA (fun r f1 g1 H locs hk hP hD hS => ?_)
    obtain ⟨y, rfl, hk⟩ := hk
    refine vOutR (W1 := mW ad tc shC f1 g1) (W3 := []) (tgt := 15) hx hb hK2 hP hD hS dL_pass_7 dL_pass_8 dL_pass_9 (by decide) dL_pass_15 (fun H locs hP hD hS => ?_)
    exact W.widen (k := 1) (n := 6) (by decide) (by decide) (vx_ret (W.iret (v := 0) hx hb hr (fun t ht hW => ⟨⟨0, f1, g1, _, rfl, hk, by rw [ht]; exact hP, hD⟩, hS.F ht⟩) hS.2.2 dL_pass_16))
  · refine vCallX (ad := ad) (sh := shC) (f := f) (g := g) (av := [.inl x1]) (rest := [.int 0, .ref o]) (j := 0) (n := 1) (rm := rtX8_pass) (ws := wtX8_pass) (thX8_pass l hls D ad tc (sa := sa) (rdX8_pass hr1)) hx hb hml hown hts hK (ci := 11) rfl (nGoodV goodH wH_T (List.mem_append_left _ (List.mem_of_getElem? (i := 4) (by decide +kernel))) (List.mem_append_left _ (List.mem_of_getElem? (i := 5) (by decide +kernel))) (List.mem_append_left _ (List.mem_of_getElem? (i := 6) (by decide +kernel))) (List.mem_append_right _ (wT_C (mAt (i := 484) (by decide +kernel)))) (List.mem_append_right _ (wT_C (mAt (i := 533) (by decide +kernel))))) rfl rfl rfl (by decide +kernel) (by decide) rfl rfl hl.1 (Nat.le_of_ble_eq_true rfl) dL_pass_4 (by decide) (by decide) tA_sub hU hN hZ hB9 (vP1 hP) (vD1 hD) hS hA (fun ce q9 H1 locs1 hP1 hz hk1 hS hce hcv hcl => ?_)
    obtain ⟨hP, hD⟩ := vRest hP hD hP1 hk1
    refine vCaughtZ (own := RL) (cls := "java/lang/IllegalArgumentException") hx hb hown hts htab (by decide) (by decide) (mIn (List.mem_append_left _ (List.mem_of_getElem? (i := 3) (by decide +kernel)))) (hB9 _ List.mem_cons_self) hce hcv hcl dL_pass_12 dL_pass_13 hl (by decide) (fun ls => ?_)
    exact vx_ret (W.iret (v := 1) hx hb hr (fun t ht hW => ⟨⟨1, f, g, w, rfl, h2 hr1, by rw [ht]; exact hP, hD⟩, hS.F ht⟩) hS.2.2 dL_pass_14)
set_option maxHeartbeats 4000000 in
set_option maxRecDepth 100000 in
theorem hlp_got (l : Launch) (hls : l.stackTraces = false) (D : va_G) (ad : Nat → Nat) (tc : Nat → ClassId) (cA : ClassId) (o sa : Nat) {f : mFn} {g : mGn} {w : Nat → Int64} (sz : Nat) {K : hKr} {x1 : Int32} (h1 : (¬ x1 < 0 ∧ ¬ f 325 ≤ x1 ∧ ¬ (1000 : Int32) ≤ x1) → spX8_got [.inr 0, .inl x1] f g (fun r f1 g1 => ∃ y, r = some (.inl y) ∧ K 0 f1 g1 (vp_updL w 0 y.toInt64))) (h2 : ¬ (¬ x1 < 0 ∧ ¬ f 325 ≤ x1 ∧ ¬ (1000 : Int32) ≤ x1) → K 1 f g w) :
    vx_Met l yL_got (.codeWith yL_got cL_got 4 (some .int) [(0, 9, 12, 21)] :: wH) ({ frames := 20, cells := 1, slots := 6, locals := 400 } : Room) (hPc D ad tc [.ref (ad 0), .int x1, .ref o] cA o f g w sz 63 sa "no such byte is kept" "java/util/NoSuchElementException") (hQc D ad tc cA o K (va_A (mW ad tc shC f g ++ outW cA o w) sz)) (fun _ _ _ => False) 1 6 (va_A (mW ad tc shC f g ++ outW cA o w) sz) := by
  refine vx_ofWH (cc := cL_got) (maxL := 4) (ret := (some .int)) (hh := [(0, 9, 12, 21)]) (by decide +kernel) rfl ?_
  intro p e s m args below meth c s₁ B hml hv
  obtain ⟨rfl, hsz, hP, hK, hK2, hD0, hU, hN, hZ, hB9⟩ := hv
  have hx := B.exec
  have hb := B.bytes
  have hr := B.returns
  have hts := atoms_spec (ws := .codeWith yL_got cL_got 4 (some .int) [(0, 9, 12, 21)] :: wH) B.pre
  have hown : s.vm.findClass RL = some m.cls := findClass_of_methodNamed B.named
  have hlocks := B.notSynchronized
  have htab : c.exceptionTable.toList = [⟨0, 9, 12, 21⟩] := vx_table (x := yL_got) B (hts _ List.mem_cons_self)
  subst hsz
  have hD := hD0.self (sz := s.heap.size)
  generalize hAe : va_A (mW ad tc shC f g ++ outW cA o w) s.heap.size = A at hD hU hN ⊢
  have hA : ∀ q : Nat, s.heap.size ≤ q → A q := fun q h => by rw [← hAe]; exact Or.inr h
  have hS : va_S A s.heap s.heap [] := va_S.rf
  have hl := lv_entry ([.ref (ad 0), .int x1, .ref o]) (n := 4) (Nat.le_of_ble_eq_true rfl)
  rw [lg_entry_eq]
  generalize (lg_sl ([.ref (ad 0), .int x1, .ref o]) ++ List.replicate (4 - (lg_sl ([.ref (ad 0), .int x1, .ref o])).length) Slot.unset).toArray = ls at hl ⊢
  have hl : lv_has ls 4 [(0, .ref (ad 0)), (1, .int x1), (2, .ref o)] := hl
  refine lv_aload_n hx hb dL_got_0 rfl (lv_at hl 2 rfl) ?_
  refine lv_iconst (v := 0) hx hb dL_got_1 (by decide) ?_
  refine lv_aload_n hx hb dL_got_2 rfl (lv_at hl 0 rfl) ?_
  refine lv_iload_n hx hb dL_got_3 rfl (lv_at hl 1 rfl) ?_
  by_cases hr1 : (¬ x1 < 0 ∧ ¬ f 325 ≤ x1 ∧ ¬ (1000 : Int32) ≤ x1)
  · refine vCallR (W2 := outW cA o w) (ad := ad) (sh := shC) (f := f) (g := g) (av := [.inl x1]) (rest := [.int 0, .ref o]) (j := 0) (n := 1) (rm := rmX8_got) (metX8_got l D ad tc) (h1 hr1) hx hb hml hown hts hK (ci := 11) rfl (nGoodV goodH wH_C (List.mem_append_left _ (List.mem_of_getElem? (i := 7) (by decide +kernel))) (List.mem_append_left _ (List.mem_of_getElem? (i := 8) (by decide +kernel))) (List.mem_append_left _ (List.mem_of_getElem? (i := 9) (by decide +kernel))) (List.mem_append_right _ (wT_C (mAt (i := 484) (by decide +kernel)))) (List.mem_append_right _ (wT_C (mAt (i := 500) (by decide +kernel))))) rfl rfl rfl (by decide +kernel) (by decide) rfl rfl hl.1 (Nat.le_of_ble_eq_true rfl) dL_got_4 (by decide) (by decide) hP hD hS hA (fun r f1 g1 H locs hk hP hD hS => ?_)
    obtain ⟨y, rfl, hk⟩ := hk
    refine vOutR (W1 := mW ad tc shC f1 g1) (W3 := []) (tgt := 15) hx hb hK2 hP hD hS dL_got_7 dL_got_8 dL_got_9 (by decide) dL_got_15 (fun H locs hP hD hS => ?_)
    exact W.widen (k := 1) (n := 6) (by decide) (by decide) (vx_ret (W.iret (v := 0) hx hb hr (fun t ht hW => ⟨⟨0, f1, g1, _, rfl, hk, by rw [ht]; exact hP, hD⟩, hS.F ht⟩) hS.2.2 dL_got_16))
  · refine vCallX (ad := ad) (sh := shC) (f := f) (g := g) (av := [.inl x1]) (rest := [.int 0, .ref o]) (j := 0) (n := 1) (rm := rtX8_got) (ws := wtX8_got) (thX8_got l hls D ad tc (sa := sa) (rdX8_got hr1)) hx hb hml hown hts hK (ci := 11) rfl (nGoodV goodH wH_T (List.mem_append_left _ (List.mem_of_getElem? (i := 7) (by decide +kernel))) (List.mem_append_left _ (List.mem_of_getElem? (i := 8) (by decide +kernel))) (List.mem_append_left _ (List.mem_of_getElem? (i := 9) (by decide +kernel))) (List.mem_append_right _ (wT_C (mAt (i := 484) (by decide +kernel)))) (List.mem_append_right _ (wT_C (mAt (i := 500) (by decide +kernel))))) rfl rfl rfl (by decide +kernel) (by decide) rfl rfl hl.1 (Nat.le_of_ble_eq_true rfl) dL_got_4 (by decide) (by decide) tB_sub hU hN hZ hB9 (vP1 hP) (vD1 hD) hS hA (fun ce q9 H1 locs1 hP1 hz hk1 hS hce hcv hcl => ?_)
    obtain ⟨hP, hD⟩ := vRest hP hD hP1 hk1
    refine vCaughtZ (own := RL) (cls := "java/util/NoSuchElementException") hx hb hown hts htab (by decide) (by decide) (mIn (List.mem_append_left _ (List.mem_of_getElem? (i := 10) (by decide +kernel)))) (hB9 _ List.mem_cons_self) hce hcv hcl dL_got_12 dL_got_13 hl (by decide) (fun ls => ?_)
    exact vx_ret (W.iret (v := 1) hx hb hr (fun t ht hW => ⟨⟨1, f, g, w, rfl, h2 hr1, by rw [ht]; exact hP, hD⟩, hS.F ht⟩) hS.2.2 dL_got_14)
set_option maxHeartbeats 4000000 in
set_option maxRecDepth 100000 in
theorem hlp_burn (l : Launch) (hls : l.stackTraces = false) (D : va_G) (ad : Nat → Nat) (tc : Nat → ClassId) (cA : ClassId) (o sa : Nat) {f : mFn} {g : mGn} {w : Nat → Int64} (sz : Nat) {K : hKr} {x1 x2 x3 x4 x5 x6 : Int32} (h1 : rg 0 2047 x1 → spX8_burn [.inr 0, .inl x1, .inl x2, .inl x3, .inl x4, .inl x5, .inl x6] f g (fun r f1 g1 => ∃ y, r = some (.inl y) ∧ K 0 f1 g1 (vp_updL w 0 y.toInt64))) (h2 : ¬ rg 0 2047 x1 → K 1 f g w) :
    vx_Met l yL_burn (.codeWith yL_burn cL_burn 9 (some .int) [(0, 18, 21, 27)] :: wH) ({ frames := 20, cells := 1, slots := 6, locals := 400 } : Room) (hPc D ad tc [.ref (ad 0), .int x1, .int x2, .int x3, .int x4, .int x5, .int x6, .ref o] cA o f g w sz 76 sa "no address of FLASH" "java/lang/IndexOutOfBoundsException") (hQc D ad tc cA o K (va_A (mW ad tc shC f g ++ outW cA o w) sz)) (fun _ _ _ => False) 1 6 (va_A (mW ad tc shC f g ++ outW cA o w) sz) := by
  refine vx_ofWH (cc := cL_burn) (maxL := 9) (ret := (some .int)) (hh := [(0, 18, 21, 27)]) (by decide +kernel) rfl ?_
  intro p e s m args below meth c s₁ B hml hv
  obtain ⟨rfl, hsz, hP, hK, hK2, hD0, hU, hN, hZ, hB9⟩ := hv
  have hx := B.exec
  have hb := B.bytes
  have hr := B.returns
  have hts := atoms_spec (ws := .codeWith yL_burn cL_burn 9 (some .int) [(0, 18, 21, 27)] :: wH) B.pre
  have hown : s.vm.findClass RL = some m.cls := findClass_of_methodNamed B.named
  have hlocks := B.notSynchronized
  have htab : c.exceptionTable.toList = [⟨0, 18, 21, 27⟩] := vx_table (x := yL_burn) B (hts _ List.mem_cons_self)
  subst hsz
  have hD := hD0.self (sz := s.heap.size)
  generalize hAe : va_A (mW ad tc shC f g ++ outW cA o w) s.heap.size = A at hD hU hN ⊢
  have hA : ∀ q : Nat, s.heap.size ≤ q → A q := fun q h => by rw [← hAe]; exact Or.inr h
  have hS : va_S A s.heap s.heap [] := va_S.rf
  have hl := lv_entry ([.ref (ad 0), .int x1, .int x2, .int x3, .int x4, .int x5, .int x6, .ref o]) (n := 9) (Nat.le_of_ble_eq_true rfl)
  rw [lg_entry_eq]
  generalize (lg_sl ([.ref (ad 0), .int x1, .int x2, .int x3, .int x4, .int x5, .int x6, .ref o]) ++ List.replicate (9 - (lg_sl ([.ref (ad 0), .int x1, .int x2, .int x3, .int x4, .int x5, .int x6, .ref o])).length) Slot.unset).toArray = ls at hl ⊢
  have hl : lv_has ls 9 [(0, .ref (ad 0)), (1, .int x1), (2, .int x2), (3, .int x3), (4, .int x4), (5, .int x5), (6, .int x6), (7, .ref o)] := hl
  refine lv_aload hx hb dL_burn_0 (lv_at hl 7 rfl) ?_
  refine lv_iconst (v := 0) hx hb dL_burn_2 (by decide) ?_
  refine lv_aload_n hx hb dL_burn_3 rfl (lv_at hl 0 rfl) ?_
  refine lv_iload_n hx hb dL_burn_4 rfl (lv_at hl 1 rfl) ?_
  refine lv_iload_n hx hb dL_burn_5 rfl (lv_at hl 2 rfl) ?_
  refine lv_iload_n hx hb dL_burn_6 rfl (lv_at hl 3 rfl) ?_
  refine lv_iload hx hb dL_burn_7 (lv_at hl 4 rfl) ?_
  refine lv_iload hx hb dL_burn_9 (lv_at hl 5 rfl) ?_
  refine lv_iload hx hb dL_burn_11 (lv_at hl 6 rfl) ?_
  by_cases hr1 : rg 0 2047 x1
  · refine vCallR (W2 := outW cA o w) (ad := ad) (sh := shC) (f := f) (g := g) (av := [.inl x1, .inl x2, .inl x3, .inl x4, .inl x5, .inl x6]) (rest := [.int 0, .ref o]) (j := 0) (n := 6) (rm := rmX8_burn) (metX8_burn l D ad tc) (h1 hr1) hx hb hml hown hts hK (ci := 11) rfl (nGoodV goodH wH_C (List.mem_append_left _ (List.mem_of_getElem? (i := 11) (by decide +kernel))) (List.mem_append_left _ (List.mem_of_getElem? (i := 12) (by decide +kernel))) (List.mem_append_left _ (List.mem_of_getElem? (i := 13) (by decide +kernel))) (List.mem_append_right _ (wT_C (mAt (i := 484) (by decide +kernel)))) (List.mem_append_right _ (wT_C (mAt (i := 482) (by decide +kernel))))) rfl rfl rfl (by decide +kernel) (by decide) rfl rfl hl.1 (Nat.le_of_ble_eq_true rfl) dL_burn_13 (by decide) (by decide) hP hD hS hA (fun r f1 g1 H locs hk hP hD hS => ?_)
    obtain ⟨y, rfl, hk⟩ := hk
    refine vOutR (W1 := mW ad tc shC f1 g1) (W3 := []) (tgt := 25) hx hb hK2 hP hD hS dL_burn_16 dL_burn_17 dL_burn_18 (by decide) dL_burn_25 (fun H locs hP hD hS => ?_)
    exact W.widen (k := 1) (n := 6) (by decide) (by decide) (vx_ret (W.iret (v := 0) hx hb hr (fun t ht hW => ⟨⟨0, f1, g1, _, rfl, hk, by rw [ht]; exact hP, hD⟩, hS.F ht⟩) hS.2.2 dL_burn_26))
  · refine vCallX (ad := ad) (sh := shC) (f := f) (g := g) (av := [.inl x1, .inl x2, .inl x3, .inl x4, .inl x5, .inl x6]) (rest := [.int 0, .ref o]) (j := 0) (n := 6) (rm := rtX8_burn) (ws := wtX8_burn) (thX8_burn l hls D ad tc (sa := sa) (rdX8_burn hr1)) hx hb hml hown hts hK (ci := 11) rfl (nGoodV goodH wH_T (List.mem_append_left _ (List.mem_of_getElem? (i := 11) (by decide +kernel))) (List.mem_append_left _ (List.mem_of_getElem? (i := 12) (by decide +kernel))) (List.mem_append_left _ (List.mem_of_getElem? (i := 13) (by decide +kernel))) (List.mem_append_right _ (wT_C (mAt (i := 484) (by decide +kernel)))) (List.mem_append_right _ (wT_C (mAt (i := 482) (by decide +kernel))))) rfl rfl rfl (by decide +kernel) (by decide) rfl rfl hl.1 (Nat.le_of_ble_eq_true rfl) dL_burn_13 (by decide) (by decide) tC_sub hU hN hZ hB9 (vP1 hP) (vD1 hD) hS hA (fun ce q9 H1 locs1 hP1 hz hk1 hS hce hcv hcl => ?_)
    obtain ⟨hP, hD⟩ := vRest hP hD hP1 hk1
    refine vCaughtY (own := RL) (cls := "java/lang/IndexOutOfBoundsException") hx hb hown hts htab (by decide) (by decide) (mIn (List.mem_append_left _ (List.mem_of_getElem? (i := 14) (by decide +kernel)))) (hB9 _ List.mem_cons_self) hce hcv hcl dL_burn_21 dL_burn_23 hl (by decide) (fun ls => ?_)
    exact vx_ret (W.iret (v := 1) hx hb hr (fun t ht hW => ⟨⟨1, f, g, w, rfl, h2 hr1, by rw [ht]; exact hP, hD⟩, hS.F ht⟩) hS.2.2 dL_burn_24)
set_option maxHeartbeats 4000000 in
set_option maxRecDepth 100000 in
theorem hlp_word (l : Launch) (hls : l.stackTraces = false) (D : va_G) (ad : Nat → Nat) (tc : Nat → ClassId) (cA : ClassId) (o sa : Nat) {f : mFn} {g : mGn} {w : Nat → Int64} (sz : Nat) {K : hKr} {x1 : Int32} (h1 : rg 0 2047 x1 → spX8_word [.inr 0, .inl x1] f g (fun r f1 g1 => ∃ y, r = some (.inl y) ∧ K 0 f1 g1 (vp_updL w 0 y.toInt64))) (h2 : ¬ rg 0 2047 x1 → K 1 f g w) :
    vx_Met l yL_word (.codeWith yL_word cL_word 4 (some .int) [(0, 9, 12, 27)] :: wH) ({ frames := 20, cells := 1, slots := 6, locals := 400 } : Room) (hPc D ad tc [.ref (ad 0), .int x1, .ref o] cA o f g w sz 76 sa "no address of FLASH" "java/lang/IndexOutOfBoundsException") (hQc D ad tc cA o K (va_A (mW ad tc shC f g ++ outW cA o w) sz)) (fun _ _ _ => False) 1 6 (va_A (mW ad tc shC f g ++ outW cA o w) sz) := by
  refine vx_ofWH (cc := cL_word) (maxL := 4) (ret := (some .int)) (hh := [(0, 9, 12, 27)]) (by decide +kernel) rfl ?_
  intro p e s m args below meth c s₁ B hml hv
  obtain ⟨rfl, hsz, hP, hK, hK2, hD0, hU, hN, hZ, hB9⟩ := hv
  have hx := B.exec
  have hb := B.bytes
  have hr := B.returns
  have hts := atoms_spec (ws := .codeWith yL_word cL_word 4 (some .int) [(0, 9, 12, 27)] :: wH) B.pre
  have hown : s.vm.findClass RL = some m.cls := findClass_of_methodNamed B.named
  have hlocks := B.notSynchronized
  have htab : c.exceptionTable.toList = [⟨0, 9, 12, 27⟩] := vx_table (x := yL_word) B (hts _ List.mem_cons_self)
  subst hsz
  have hD := hD0.self (sz := s.heap.size)
  generalize hAe : va_A (mW ad tc shC f g ++ outW cA o w) s.heap.size = A at hD hU hN ⊢
  have hA : ∀ q : Nat, s.heap.size ≤ q → A q := fun q h => by rw [← hAe]; exact Or.inr h
  have hS : va_S A s.heap s.heap [] := va_S.rf
  have hl := lv_entry ([.ref (ad 0), .int x1, .ref o]) (n := 4) (Nat.le_of_ble_eq_true rfl)
  rw [lg_entry_eq]
  generalize (lg_sl ([.ref (ad 0), .int x1, .ref o]) ++ List.replicate (4 - (lg_sl ([.ref (ad 0), .int x1, .ref o])).length) Slot.unset).toArray = ls at hl ⊢
  have hl : lv_has ls 4 [(0, .ref (ad 0)), (1, .int x1), (2, .ref o)] := hl
  refine lv_aload_n hx hb dL_word_0 rfl (lv_at hl 2 rfl) ?_
  refine lv_iconst (v := 0) hx hb dL_word_1 (by decide) ?_
  refine lv_aload_n hx hb dL_word_2 rfl (lv_at hl 0 rfl) ?_
  refine lv_iload_n hx hb dL_word_3 rfl (lv_at hl 1 rfl) ?_
  by_cases hr1 : rg 0 2047 x1
  · refine vCallR (W2 := outW cA o w) (ad := ad) (sh := shC) (f := f) (g := g) (av := [.inl x1]) (rest := [.int 0, .ref o]) (j := 0) (n := 1) (rm := rmX8_word) (metX8_word l D ad tc) (h1 hr1) hx hb hml hown hts hK (ci := 11) rfl (nGoodV goodH wH_C (List.mem_append_left _ (List.mem_of_getElem? (i := 15) (by decide +kernel))) (List.mem_append_left _ (List.mem_of_getElem? (i := 16) (by decide +kernel))) (List.mem_append_left _ (List.mem_of_getElem? (i := 17) (by decide +kernel))) (List.mem_append_right _ (wT_C (mAt (i := 484) (by decide +kernel)))) (List.mem_append_right _ (wT_C (mAt (i := 550) (by decide +kernel))))) rfl rfl rfl (by decide +kernel) (by decide) rfl rfl hl.1 (Nat.le_of_ble_eq_true rfl) dL_word_4 (by decide) (by decide) hP hD hS hA (fun r f1 g1 H locs hk hP hD hS => ?_)
    obtain ⟨y, rfl, hk⟩ := hk
    refine vOutR (W1 := mW ad tc shC f1 g1) (W3 := []) (tgt := 15) hx hb hK2 hP hD hS dL_word_7 dL_word_8 dL_word_9 (by decide) dL_word_15 (fun H locs hP hD hS => ?_)
    exact W.widen (k := 1) (n := 6) (by decide) (by decide) (vx_ret (W.iret (v := 0) hx hb hr (fun t ht hW => ⟨⟨0, f1, g1, _, rfl, hk, by rw [ht]; exact hP, hD⟩, hS.F ht⟩) hS.2.2 dL_word_16))
  · refine vCallX (ad := ad) (sh := shC) (f := f) (g := g) (av := [.inl x1]) (rest := [.int 0, .ref o]) (j := 0) (n := 1) (rm := rtX8_word) (ws := wtX8_word) (thX8_word l hls D ad tc (sa := sa) (rdX8_word hr1)) hx hb hml hown hts hK (ci := 11) rfl (nGoodV goodH wH_T (List.mem_append_left _ (List.mem_of_getElem? (i := 15) (by decide +kernel))) (List.mem_append_left _ (List.mem_of_getElem? (i := 16) (by decide +kernel))) (List.mem_append_left _ (List.mem_of_getElem? (i := 17) (by decide +kernel))) (List.mem_append_right _ (wT_C (mAt (i := 484) (by decide +kernel)))) (List.mem_append_right _ (wT_C (mAt (i := 550) (by decide +kernel))))) rfl rfl rfl (by decide +kernel) (by decide) rfl rfl hl.1 (Nat.le_of_ble_eq_true rfl) dL_word_4 (by decide) (by decide) tC_sub hU hN hZ hB9 (vP1 hP) (vD1 hD) hS hA (fun ce q9 H1 locs1 hP1 hz hk1 hS hce hcv hcl => ?_)
    obtain ⟨hP, hD⟩ := vRest hP hD hP1 hk1
    refine vCaughtZ (own := RL) (cls := "java/lang/IndexOutOfBoundsException") hx hb hown hts htab (by decide) (by decide) (mIn (List.mem_append_left _ (List.mem_of_getElem? (i := 14) (by decide +kernel)))) (hB9 _ List.mem_cons_self) hce hcv hcl dL_word_12 dL_word_13 hl (by decide) (fun ls => ?_)
    exact vx_ret (W.iret (v := 1) hx hb hr (fun t ht hW => ⟨⟨1, f, g, w, rfl, h2 hr1, by rw [ht]; exact hP, hD⟩, hS.F ht⟩) hS.2.2 dL_word_14)
set_option maxHeartbeats 4000000 in
set_option maxRecDepth 100000 in
theorem hlp_data (l : Launch) (hls : l.stackTraces = false) (D : va_G) (ad : Nat → Nat) (tc : Nat → ClassId) (cA : ClassId) (o sa : Nat) {f : mFn} {g : mGn} {w : Nat → Int64} (sz : Nat) {K : hKr} {x1 : Int32} (h1 : rg 0 1279 x1 → spX8_data [.inr 0, .inl x1] f g (fun r f1 g1 => ∃ y, r = some (.inl y) ∧ K 0 f1 g1 (vp_updL w 0 y.toInt64))) (h2 : ¬ rg 0 1279 x1 → K 1 f g w) :
    vx_Met l yL_data (.codeWith yL_data cL_data 4 (some .int) [(0, 9, 12, 27)] :: wH) ({ frames := 20, cells := 1, slots := 6, locals := 400 } : Room) (hPc D ad tc [.ref (ad 0), .int x1, .ref o] cA o f g w sz 92 sa "no address of DATA" "java/lang/IndexOutOfBoundsException") (hQc D ad tc cA o K (va_A (mW ad tc shC f g ++ outW cA o w) sz)) (fun _ _ _ => False) 1 6 (va_A (mW ad tc shC f g ++ outW cA o w) sz) := by
  refine vx_ofWH (cc := cL_data) (maxL := 4) (ret := (some .int)) (hh := [(0, 9, 12, 27)]) (by decide +kernel) rfl ?_
  intro p e s m args below meth c s₁ B hml hv
  obtain ⟨rfl, hsz, hP, hK, hK2, hD0, hU, hN, hZ, hB9⟩ := hv
  have hx := B.exec
  have hb := B.bytes
  have hr := B.returns
  have hts := atoms_spec (ws := .codeWith yL_data cL_data 4 (some .int) [(0, 9, 12, 27)] :: wH) B.pre
  have hown : s.vm.findClass RL = some m.cls := findClass_of_methodNamed B.named
  have hlocks := B.notSynchronized
  have htab : c.exceptionTable.toList = [⟨0, 9, 12, 27⟩] := vx_table (x := yL_data) B (hts _ List.mem_cons_self)
  subst hsz
  have hD := hD0.self (sz := s.heap.size)
  generalize hAe : va_A (mW ad tc shC f g ++ outW cA o w) s.heap.size = A at hD hU hN ⊢
  have hA : ∀ q : Nat, s.heap.size ≤ q → A q := fun q h => by rw [← hAe]; exact Or.inr h
  have hS : va_S A s.heap s.heap [] := va_S.rf
  have hl := lv_entry ([.ref (ad 0), .int x1, .ref o]) (n := 4) (Nat.le_of_ble_eq_true rfl)
  rw [lg_entry_eq]
  generalize (lg_sl ([.ref (ad 0), .int x1, .ref o]) ++ List.replicate (4 - (lg_sl ([.ref (ad 0), .int x1, .ref o])).length) Slot.unset).toArray = ls at hl ⊢
  have hl : lv_has ls 4 [(0, .ref (ad 0)), (1, .int x1), (2, .ref o)] := hl
  refine lv_aload_n hx hb dL_data_0 rfl (lv_at hl 2 rfl) ?_
  refine lv_iconst (v := 0) hx hb dL_data_1 (by decide) ?_
  refine lv_aload_n hx hb dL_data_2 rfl (lv_at hl 0 rfl) ?_
  refine lv_iload_n hx hb dL_data_3 rfl (lv_at hl 1 rfl) ?_
  by_cases hr1 : rg 0 1279 x1
  · refine vCallR (W2 := outW cA o w) (ad := ad) (sh := shC) (f := f) (g := g) (av := [.inl x1]) (rest := [.int 0, .ref o]) (j := 0) (n := 1) (rm := rmX8_data) (metX8_data l D ad tc) (h1 hr1) hx hb hml hown hts hK (ci := 11) rfl (nGoodV goodH wH_C (List.mem_append_left _ (List.mem_of_getElem? (i := 18) (by decide +kernel))) (List.mem_append_left _ (List.mem_of_getElem? (i := 19) (by decide +kernel))) (List.mem_append_left _ (List.mem_of_getElem? (i := 20) (by decide +kernel))) (List.mem_append_right _ (wT_C (mAt (i := 484) (by decide +kernel)))) (List.mem_append_right _ (wT_C (mAt (i := 490) (by decide +kernel))))) rfl rfl rfl (by decide +kernel) (by decide) rfl rfl hl.1 (Nat.le_of_ble_eq_true rfl) dL_data_4 (by decide) (by decide) hP hD hS hA (fun r f1 g1 H locs hk hP hD hS => ?_)
    obtain ⟨y, rfl, hk⟩ := hk
    refine vOutR (W1 := mW ad tc shC f1 g1) (W3 := []) (tgt := 15) hx hb hK2 hP hD hS dL_data_7 dL_data_8 dL_data_9 (by decide) dL_data_15 (fun H locs hP hD hS => ?_)
    exact W.widen (k := 1) (n := 6) (by decide) (by decide) (vx_ret (W.iret (v := 0) hx hb hr (fun t ht hW => ⟨⟨0, f1, g1, _, rfl, hk, by rw [ht]; exact hP, hD⟩, hS.F ht⟩) hS.2.2 dL_data_16))
  · refine vCallX (ad := ad) (sh := shC) (f := f) (g := g) (av := [.inl x1]) (rest := [.int 0, .ref o]) (j := 0) (n := 1) (rm := rtX8_data) (ws := wtX8_data) (thX8_data l hls D ad tc (sa := sa) (rdX8_data hr1)) hx hb hml hown hts hK (ci := 11) rfl (nGoodV goodH wH_T (List.mem_append_left _ (List.mem_of_getElem? (i := 18) (by decide +kernel))) (List.mem_append_left _ (List.mem_of_getElem? (i := 19) (by decide +kernel))) (List.mem_append_left _ (List.mem_of_getElem? (i := 20) (by decide +kernel))) (List.mem_append_right _ (wT_C (mAt (i := 484) (by decide +kernel)))) (List.mem_append_right _ (wT_C (mAt (i := 490) (by decide +kernel))))) rfl rfl rfl (by decide +kernel) (by decide) rfl rfl hl.1 (Nat.le_of_ble_eq_true rfl) dL_data_4 (by decide) (by decide) tC_sub hU hN hZ hB9 (vP1 hP) (vD1 hD) hS hA (fun ce q9 H1 locs1 hP1 hz hk1 hS hce hcv hcl => ?_)
    obtain ⟨hP, hD⟩ := vRest hP hD hP1 hk1
    refine vCaughtZ (own := RL) (cls := "java/lang/IndexOutOfBoundsException") hx hb hown hts htab (by decide) (by decide) (mIn (List.mem_append_left _ (List.mem_of_getElem? (i := 14) (by decide +kernel)))) (hB9 _ List.mem_cons_self) hce hcv hcl dL_data_12 dL_data_13 hl (by decide) (fun ls => ?_)
    exact vx_ret (W.iret (v := 1) hx hb hr (fun t ht hW => ⟨⟨1, f, g, w, rfl, h2 hr1, by rw [ht]; exact hP, hD⟩, hS.F ht⟩) hS.2.2 dL_data_14)
set_option maxHeartbeats 4000000 in
set_option maxRecDepth 100000 in
theorem hlp_put (l : Launch) (hls : l.stackTraces = false) (D : va_G) (ad : Nat → Nat) (tc : Nat → ClassId) (cA : ClassId) (o sa : Nat) {f : mFn} {g : mGn} {w : Nat → Int64} (sz : Nat) {K : hKr} {x1 x2 : Int32} (h1 : vPut x1 → spX8_put [.inr 0, .inl x1, .inl x2] f g (fun r f1 g1 => r = none ∧ K 0 f1 g1 w)) (h2 : ¬ vPut x1 → K 1 f g w) :
    vx_Met l yL_put (.codeWith yL_put cL_put 4 (some .int) [(0, 6, 9, 27)] :: wH) ({ frames := 20, cells := 1, slots := 6, locals := 400 } : Room) (hPc D ad tc [.ref (ad 0), .int x1, .int x2] cA o f g w sz 103 sa "no register, SP, SREG or RAM" "java/lang/IndexOutOfBoundsException") (hQc D ad tc cA o K (va_A (mW ad tc shC f g ++ outW cA o w) sz)) (fun _ _ _ => False) 1 6 (va_A (mW ad tc shC f g ++ outW cA o w) sz) := by
  refine vx_ofWH (cc := cL_put) (maxL := 4) (ret := (some .int)) (hh := [(0, 6, 9, 27)]) (by decide +kernel) rfl ?_
  intro p e s m args below meth c s₁ B hml hv
  obtain ⟨rfl, hsz, hP, hK, hK2, hD0, hU, hN, hZ, hB9⟩ := hv
  have hx := B.exec
  have hb := B.bytes
  have hr := B.returns
  have hts := atoms_spec (ws := .codeWith yL_put cL_put 4 (some .int) [(0, 6, 9, 27)] :: wH) B.pre
  have hown : s.vm.findClass RL = some m.cls := findClass_of_methodNamed B.named
  have hlocks := B.notSynchronized
  have htab : c.exceptionTable.toList = [⟨0, 6, 9, 27⟩] := vx_table (x := yL_put) B (hts _ List.mem_cons_self)
  subst hsz
  have hD := hD0.self (sz := s.heap.size)
  generalize hAe : va_A (mW ad tc shC f g ++ outW cA o w) s.heap.size = A at hD hU hN ⊢
  have hA : ∀ q : Nat, s.heap.size ≤ q → A q := fun q h => by rw [← hAe]; exact Or.inr h
  have hS : va_S A s.heap s.heap [] := va_S.rf
  have hl := lv_entry ([.ref (ad 0), .int x1, .int x2]) (n := 4) (Nat.le_of_ble_eq_true rfl)
  rw [lg_entry_eq]
  generalize (lg_sl ([.ref (ad 0), .int x1, .int x2]) ++ List.replicate (4 - (lg_sl ([.ref (ad 0), .int x1, .int x2])).length) Slot.unset).toArray = ls at hl ⊢
  have hl : lv_has ls 4 [(0, .ref (ad 0)), (1, .int x1), (2, .int x2)] := hl
  refine lv_aload_n hx hb dL_put_0 rfl (lv_at hl 0 rfl) ?_
  refine lv_iload_n hx hb dL_put_1 rfl (lv_at hl 1 rfl) ?_
  refine lv_iload_n hx hb dL_put_2 rfl (lv_at hl 2 rfl) ?_
  by_cases hr1 : vPut x1
  · refine vCallR (W2 := outW cA o w) (ad := ad) (sh := shC) (f := f) (g := g) (av := [.inl x1, .inl x2]) (rest := []) (j := 0) (n := 2) (rm := rmX8_put) (metX8_put l D ad tc) (h1 hr1) hx hb hml hown hts hK (ci := 11) rfl (nGoodV goodH wH_C (List.mem_append_left _ (List.mem_of_getElem? (i := 21) (by decide +kernel))) (List.mem_append_left _ (List.mem_of_getElem? (i := 22) (by decide +kernel))) (List.mem_append_left _ (List.mem_of_getElem? (i := 23) (by decide +kernel))) (List.mem_append_right _ (wT_C (mAt (i := 484) (by decide +kernel)))) (List.mem_append_right _ (wT_C (mAt (i := 541) (by decide +kernel))))) rfl rfl rfl (by decide +kernel) (by decide) rfl rfl hl.1 (Nat.le_of_ble_eq_true rfl) dL_put_3 (by decide) (by decide) hP hD hS hA (fun r f1 g1 H locs hk hP hD hS => ?_)
    obtain ⟨rfl, hk⟩ := hk
    refine lv_goto (tgt := 12) hx hb dL_put_6 (by decide) ?_
    refine lv_iconst (v := 0) hx hb dL_put_12 (by decide) ?_
    exact W.widen (k := 1) (n := 6) (by decide) (by decide) (vx_ret (W.iret (v := 0) hx hb hr (fun t ht hW => ⟨⟨0, f1, g1, _, rfl, hk, by rw [ht]; exact hP, hD⟩, hS.F ht⟩) hS.2.2 dL_put_13))
  · refine vCallX (ad := ad) (sh := shC) (f := f) (g := g) (av := [.inl x1, .inl x2]) (rest := []) (j := 0) (n := 2) (rm := rtX8_put) (ws := wtX8_put) (thX8_put l hls D ad tc (sa := sa) (rdX8_put hr1)) hx hb hml hown hts hK (ci := 11) rfl (nGoodV goodH wH_T (List.mem_append_left _ (List.mem_of_getElem? (i := 21) (by decide +kernel))) (List.mem_append_left _ (List.mem_of_getElem? (i := 22) (by decide +kernel))) (List.mem_append_left _ (List.mem_of_getElem? (i := 23) (by decide +kernel))) (List.mem_append_right _ (wT_C (mAt (i := 484) (by decide +kernel)))) (List.mem_append_right _ (wT_C (mAt (i := 541) (by decide +kernel))))) rfl rfl rfl (by decide +kernel) (by decide) rfl rfl hl.1 (Nat.le_of_ble_eq_true rfl) dL_put_3 (by decide) (by decide) tC_sub hU hN hZ hB9 (vP1 hP) (vD1 hD) hS hA (fun ce q9 H1 locs1 hP1 hz hk1 hS hce hcv hcl => ?_)
    obtain ⟨hP, hD⟩ := vRest hP hD hP1 hk1
    refine vCaughtZ (own := RL) (cls := "java/lang/IndexOutOfBoundsException") hx hb hown hts htab (by decide) (by decide) (mIn (List.mem_append_left _ (List.mem_of_getElem? (i := 14) (by decide +kernel)))) (hB9 _ List.mem_cons_self) hce hcv hcl dL_put_9 dL_put_10 hl (by decide) (fun ls => ?_)
    exact vx_ret (W.iret (v := 1) hx hb hr (fun t ht hW => ⟨⟨1, f, g, w, rfl, h2 hr1, by rw [ht]; exact hP, hD⟩, hS.F ht⟩) hS.2.2 dL_put_11)
set_option maxHeartbeats 4000000 in
set_option maxRecDepth 100000 in
theorem hlp_eeprom (l : Launch) (hls : l.stackTraces = false) (D : va_G) (ad : Nat → Nat) (tc : Nat → ClassId) (cA : ClassId) (o sa : Nat) {f : mFn} {g : mGn} {w : Nat → Int64} (sz : Nat) {K : hKr} {x1 : Int32} (h1 : rg 0 255 x1 → spX8_eeprom [.inr 0, .inl x1] f g (fun r f1 g1 => ∃ y, r = some (.inl y) ∧ K 0 f1 g1 (vp_updL w 0 y.toInt64))) (h2 : ¬ rg 0 255 x1 → K 1 f g w) :
    vx_Met l yL_eeprom (.codeWith yL_eeprom cL_eeprom 4 (some .int) [(0, 9, 12, 27)] :: wH) ({ frames := 20, cells := 1, slots := 6, locals := 400 } : Room) (hPc D ad tc [.ref (ad 0), .int x1, .ref o] cA o f g w sz 117 sa "no address of the EEPROM" "java/lang/IndexOutOfBoundsException") (hQc D ad tc cA o K (va_A (mW ad tc shC f g ++ outW cA o w) sz)) (fun _ _ _ => False) 1 6 (va_A (mW ad tc shC f g ++ outW cA o w) sz) := by
  refine vx_ofWH (cc := cL_eeprom) (maxL := 4) (ret := (some .int)) (hh := [(0, 9, 12, 27)]) (by decide +kernel) rfl ?_
  intro p e s m args below meth c s₁ B hml hv
  obtain ⟨rfl, hsz, hP, hK, hK2, hD0, hU, hN, hZ, hB9⟩ := hv
  have hx := B.exec
  have hb := B.bytes
  have hr := B.returns
  have hts := atoms_spec (ws := .codeWith yL_eeprom cL_eeprom 4 (some .int) [(0, 9, 12, 27)] :: wH) B.pre
  have hown : s.vm.findClass RL = some m.cls := findClass_of_methodNamed B.named
  have hlocks := B.notSynchronized
  have htab : c.exceptionTable.toList = [⟨0, 9, 12, 27⟩] := vx_table (x := yL_eeprom) B (hts _ List.mem_cons_self)
  subst hsz
  have hD := hD0.self (sz := s.heap.size)
  generalize hAe : va_A (mW ad tc shC f g ++ outW cA o w) s.heap.size = A at hD hU hN ⊢
  have hA : ∀ q : Nat, s.heap.size ≤ q → A q := fun q h => by rw [← hAe]; exact Or.inr h
  have hS : va_S A s.heap s.heap [] := va_S.rf
  have hl := lv_entry ([.ref (ad 0), .int x1, .ref o]) (n := 4) (Nat.le_of_ble_eq_true rfl)
  rw [lg_entry_eq]
  generalize (lg_sl ([.ref (ad 0), .int x1, .ref o]) ++ List.replicate (4 - (lg_sl ([.ref (ad 0), .int x1, .ref o])).length) Slot.unset).toArray = ls at hl ⊢
  have hl : lv_has ls 4 [(0, .ref (ad 0)), (1, .int x1), (2, .ref o)] := hl
  refine lv_aload_n hx hb dL_eeprom_0 rfl (lv_at hl 2 rfl) ?_
  refine lv_iconst (v := 0) hx hb dL_eeprom_1 (by decide) ?_
  refine lv_aload_n hx hb dL_eeprom_2 rfl (lv_at hl 0 rfl) ?_
  refine lv_iload_n hx hb dL_eeprom_3 rfl (lv_at hl 1 rfl) ?_
  by_cases hr1 : rg 0 255 x1
  · refine vCallR (W2 := outW cA o w) (ad := ad) (sh := shC) (f := f) (g := g) (av := [.inl x1]) (rest := [.int 0, .ref o]) (j := 0) (n := 1) (rm := rmX8_eeprom) (metX8_eeprom l D ad tc) (h1 hr1) hx hb hml hown hts hK (ci := 11) rfl (nGoodV goodH wH_C (List.mem_append_left _ (List.mem_of_getElem? (i := 24) (by decide +kernel))) (List.mem_append_left _ (List.mem_of_getElem? (i := 25) (by decide +kernel))) (List.mem_append_left _ (List.mem_of_getElem? (i := 26) (by decide +kernel))) (List.mem_append_right _ (wT_C (mAt (i := 484) (by decide +kernel)))) (List.mem_append_right _ (wT_C (mAt (i := 495) (by decide +kernel))))) rfl rfl rfl (by decide +kernel) (by decide) rfl rfl hl.1 (Nat.le_of_ble_eq_true rfl) dL_eeprom_4 (by decide) (by decide) hP hD hS hA (fun r f1 g1 H locs hk hP hD hS => ?_)
    obtain ⟨y, rfl, hk⟩ := hk
    refine vOutR (W1 := mW ad tc shC f1 g1) (W3 := []) (tgt := 15) hx hb hK2 hP hD hS dL_eeprom_7 dL_eeprom_8 dL_eeprom_9 (by decide) dL_eeprom_15 (fun H locs hP hD hS => ?_)
    exact W.widen (k := 1) (n := 6) (by decide) (by decide) (vx_ret (W.iret (v := 0) hx hb hr (fun t ht hW => ⟨⟨0, f1, g1, _, rfl, hk, by rw [ht]; exact hP, hD⟩, hS.F ht⟩) hS.2.2 dL_eeprom_16))
  · refine vCallX (ad := ad) (sh := shC) (f := f) (g := g) (av := [.inl x1]) (rest := [.int 0, .ref o]) (j := 0) (n := 1) (rm := rtX8_eeprom) (ws := wtX8_eeprom) (thX8_eeprom l hls D ad tc (sa := sa) (rdX8_eeprom hr1)) hx hb hml hown hts hK (ci := 11) rfl (nGoodV goodH wH_T (List.mem_append_left _ (List.mem_of_getElem? (i := 24) (by decide +kernel))) (List.mem_append_left _ (List.mem_of_getElem? (i := 25) (by decide +kernel))) (List.mem_append_left _ (List.mem_of_getElem? (i := 26) (by decide +kernel))) (List.mem_append_right _ (wT_C (mAt (i := 484) (by decide +kernel)))) (List.mem_append_right _ (wT_C (mAt (i := 495) (by decide +kernel))))) rfl rfl rfl (by decide +kernel) (by decide) rfl rfl hl.1 (Nat.le_of_ble_eq_true rfl) dL_eeprom_4 (by decide) (by decide) tC_sub hU hN hZ hB9 (vP1 hP) (vD1 hD) hS hA (fun ce q9 H1 locs1 hP1 hz hk1 hS hce hcv hcl => ?_)
    obtain ⟨hP, hD⟩ := vRest hP hD hP1 hk1
    refine vCaughtZ (own := RL) (cls := "java/lang/IndexOutOfBoundsException") hx hb hown hts htab (by decide) (by decide) (mIn (List.mem_append_left _ (List.mem_of_getElem? (i := 14) (by decide +kernel)))) (hB9 _ List.mem_cons_self) hce hcv hcl dL_eeprom_12 dL_eeprom_13 hl (by decide) (fun ls => ?_)
    exact vx_ret (W.iret (v := 1) hx hb hr (fun t ht hW => ⟨⟨1, f, g, w, rfl, h2 hr1, by rw [ht]; exact hP, hD⟩, hS.F ht⟩) hS.2.2 dL_eeprom_14)
set_option maxHeartbeats 4000000 in
set_option maxRecDepth 100000 in
theorem hlp_start (l : Launch) (hls : l.stackTraces = false) (D : va_G) (ad : Nat → Nat) (tc : Nat → ClassId) (cA : ClassId) (o sa : Nat) {f : mFn} {g : mGn} {w : Nat → Int64} (sz : Nat) {K : hKr} {x1 : Int32} (h1 : rg 0 2047 x1 → spX8_start [.inr 0, .inl x1] f g (fun r f1 g1 => r = none ∧ K 0 f1 g1 w)) (h2 : ¬ rg 0 2047 x1 → K 1 f g w) :
    vx_Met l yL_start (.codeWith yL_start cL_start 3 (some .int) [(0, 5, 8, 27)] :: wH) ({ frames := 20, cells := 1, slots := 6, locals := 400 } : Room) (hPc D ad tc [.ref (ad 0), .int x1] cA o f g w sz 76 sa "no address of FLASH" "java/lang/IndexOutOfBoundsException") (hQc D ad tc cA o K (va_A (mW ad tc shC f g ++ outW cA o w) sz)) (fun _ _ _ => False) 1 6 (va_A (mW ad tc shC f g ++ outW cA o w) sz) := by
  refine vx_ofWH (cc := cL_start) (maxL := 3) (ret := (some .int)) (hh := [(0, 5, 8, 27)]) (by decide +kernel) rfl ?_
  intro p e s m args below meth c s₁ B hml hv
  obtain ⟨rfl, hsz, hP, hK, hK2, hD0, hU, hN, hZ, hB9⟩ := hv
  have hx := B.exec
  have hb := B.bytes
  have hr := B.returns
  have hts := atoms_spec (ws := .codeWith yL_start cL_start 3 (some .int) [(0, 5, 8, 27)] :: wH) B.pre
  have hown : s.vm.findClass RL = some m.cls := findClass_of_methodNamed B.named
  have hlocks := B.notSynchronized
  have htab : c.exceptionTable.toList = [⟨0, 5, 8, 27⟩] := vx_table (x := yL_start) B (hts _ List.mem_cons_self)
  subst hsz
  have hD := hD0.self (sz := s.heap.size)
  generalize hAe : va_A (mW ad tc shC f g ++ outW cA o w) s.heap.size = A at hD hU hN ⊢
  have hA : ∀ q : Nat, s.heap.size ≤ q → A q := fun q h => by rw [← hAe]; exact Or.inr h
  have hS : va_S A s.heap s.heap [] := va_S.rf
  have hl := lv_entry ([.ref (ad 0), .int x1]) (n := 3) (Nat.le_of_ble_eq_true rfl)
  rw [lg_entry_eq]
  generalize (lg_sl ([.ref (ad 0), .int x1]) ++ List.replicate (3 - (lg_sl ([.ref (ad 0), .int x1])).length) Slot.unset).toArray = ls at hl ⊢
  have hl : lv_has ls 3 [(0, .ref (ad 0)), (1, .int x1)] := hl
  refine lv_aload_n hx hb dL_start_0 rfl (lv_at hl 0 rfl) ?_
  refine lv_iload_n hx hb dL_start_1 rfl (lv_at hl 1 rfl) ?_
  by_cases hr1 : rg 0 2047 x1
  · refine vCallR (W2 := outW cA o w) (ad := ad) (sh := shC) (f := f) (g := g) (av := [.inl x1]) (rest := []) (j := 0) (n := 1) (rm := rmX8_start) (metX8_start l D ad tc) (h1 hr1) hx hb hml hown hts hK (ci := 11) rfl (nGoodV goodH wH_C (List.mem_append_left _ (List.mem_of_getElem? (i := 27) (by decide +kernel))) (List.mem_append_left _ (List.mem_of_getElem? (i := 28) (by decide +kernel))) (List.mem_append_left _ (List.mem_of_getElem? (i := 29) (by decide +kernel))) (List.mem_append_right _ (wT_C (mAt (i := 484) (by decide +kernel)))) (List.mem_append_right _ (wT_C (mAt (i := 548) (by decide +kernel))))) rfl rfl rfl (by decide +kernel) (by decide) rfl rfl hl.1 (Nat.le_of_ble_eq_true rfl) dL_start_2 (by decide) (by decide) hP hD hS hA (fun r f1 g1 H locs hk hP hD hS => ?_)
    obtain ⟨rfl, hk⟩ := hk
    refine lv_goto (tgt := 11) hx hb dL_start_5 (by decide) ?_
    refine lv_iconst (v := 0) hx hb dL_start_11 (by decide) ?_
    exact W.widen (k := 1) (n := 6) (by decide) (by decide) (vx_ret (W.iret (v := 0) hx hb hr (fun t ht hW => ⟨⟨0, f1, g1, _, rfl, hk, by rw [ht]; exact hP, hD⟩, hS.F ht⟩) hS.2.2 dL_start_12))
  · refine vCallX (ad := ad) (sh := shC) (f := f) (g := g) (av := [.inl x1]) (rest := []) (j := 0) (n := 1) (rm := rtX8_start) (ws := wtX8_start) (thX8_start l hls D ad tc (sa := sa) (rdX8_start hr1)) hx hb hml hown hts hK (ci := 11) rfl (nGoodV goodH wH_T (List.mem_append_left _ (List.mem_of_getElem? (i := 27) (by decide +kernel))) (List.mem_append_left _ (List.mem_of_getElem? (i := 28) (by decide +kernel))) (List.mem_append_left _ (List.mem_of_getElem? (i := 29) (by decide +kernel))) (List.mem_append_right _ (wT_C (mAt (i := 484) (by decide +kernel)))) (List.mem_append_right _ (wT_C (mAt (i := 548) (by decide +kernel))))) rfl rfl rfl (by decide +kernel) (by decide) rfl rfl hl.1 (Nat.le_of_ble_eq_true rfl) dL_start_2 (by decide) (by decide) tC_sub hU hN hZ hB9 (vP1 hP) (vD1 hD) hS hA (fun ce q9 H1 locs1 hP1 hz hk1 hS hce hcv hcl => ?_)
    obtain ⟨hP, hD⟩ := vRest hP hD hP1 hk1
    refine vCaughtZ (own := RL) (cls := "java/lang/IndexOutOfBoundsException") hx hb hown hts htab (by decide) (by decide) (mIn (List.mem_append_left _ (List.mem_of_getElem? (i := 14) (by decide +kernel)))) (hB9 _ List.mem_cons_self) hce hcv hcl dL_start_8 dL_start_9 hl (by decide) (fun ls => ?_)
    exact vx_ret (W.iret (v := 1) hx hb hr (fun t ht hW => ⟨⟨1, f, g, w, rfl, h2 hr1, by rw [ht]; exact hP, hD⟩, hS.F ht⟩) hS.2.2 dL_start_10)
set_option maxHeartbeats 4000000 in
set_option maxRecDepth 100000 in
theorem hlp_about (l : Launch) (hls : l.stackTraces = false) (D : va_G) (ad : Nat → Nat) (tc : Nat → ClassId) (cA : ClassId) (o sa : Nat) {f : mFn} {g : mGn} {w : Nat → Int64} (sz : Nat) {K : hKr} {x1 : Int32} (h1 : rg 0 21 x1 → spX8_about [.inr 0, .inl x1] f g (fun r f1 g1 => ∃ y, r = some (.inl y) ∧ K 0 f1 g1 (vp_updL w 0 y.toInt64))) (h2 : ¬ rg 0 21 x1 → K 1 f g w) :
    vx_Met l yL_about (.codeWith yL_about cL_about 4 (some .int) [(0, 9, 12, 21)] :: wH) ({ frames := 20, cells := 1, slots := 6, locals := 400 } : Room) (hPc D ad tc [.ref (ad 0), .int x1, .ref o] cA o f g w sz 207 sa "nothing is told of that" "java/util/NoSuchElementException") (hQc D ad tc cA o K (va_A (mW ad tc shC f g ++ outW cA o w) sz)) (fun _ _ _ => False) 1 6 (va_A (mW ad tc shC f g ++ outW cA o w) sz) := by
  refine vx_ofWH (cc := cL_about) (maxL := 4) (ret := (some .int)) (hh := [(0, 9, 12, 21)]) (by decide +kernel) rfl ?_
  intro p e s m args below meth c s₁ B hml hv
  obtain ⟨rfl, hsz, hP, hK, hK2, hD0, hU, hN, hZ, hB9⟩ := hv
  have hx := B.exec
  have hb := B.bytes
  have hr := B.returns
  have hts := atoms_spec (ws := .codeWith yL_about cL_about 4 (some .int) [(0, 9, 12, 21)] :: wH) B.pre
  have hown : s.vm.findClass RL = some m.cls := findClass_of_methodNamed B.named
  have hlocks := B.notSynchronized
  have htab : c.exceptionTable.toList = [⟨0, 9, 12, 21⟩] := vx_table (x := yL_about) B (hts _ List.mem_cons_self)
  subst hsz
  have hD := hD0.self (sz := s.heap.size)
  generalize hAe : va_A (mW ad tc shC f g ++ outW cA o w) s.heap.size = A at hD hU hN ⊢
  have hA : ∀ q : Nat, s.heap.size ≤ q → A q := fun q h => by rw [← hAe]; exact Or.inr h
  have hS : va_S A s.heap s.heap [] := va_S.rf
  have hl := lv_entry ([.ref (ad 0), .int x1, .ref o]) (n := 4) (Nat.le_of_ble_eq_true rfl)
  rw [lg_entry_eq]
  generalize (lg_sl ([.ref (ad 0), .int x1, .ref o]) ++ List.replicate (4 - (lg_sl ([.ref (ad 0), .int x1, .ref o])).length) Slot.unset).toArray = ls at hl ⊢
  have hl : lv_has ls 4 [(0, .ref (ad 0)), (1, .int x1), (2, .ref o)] := hl
  refine lv_aload_n hx hb dL_about_0 rfl (lv_at hl 2 rfl) ?_
  refine lv_iconst (v := 0) hx hb dL_about_1 (by decide) ?_
  refine lv_aload_n hx hb dL_about_2 rfl (lv_at hl 0 rfl) ?_
  refine lv_iload_n hx hb dL_about_3 rfl (lv_at hl 1 rfl) ?_
  by_cases hr1 : rg 0 21 x1
  · refine vCallR (W2 := outW cA o w) (ad := ad) (sh := shC) (f := f) (g := g) (av := [.inl x1]) (rest := [.int 0, .ref o]) (j := 0) (n := 1) (rm := rmX8_about) (metX8_about l D ad tc) (h1 hr1) hx hb hml hown hts hK (ci := 11) rfl (nGoodV goodH wH_C (List.mem_append_left _ (List.mem_of_getElem? (i := 30) (by decide +kernel))) (List.mem_append_left _ (List.mem_of_getElem? (i := 31) (by decide +kernel))) (List.mem_append_left _ (List.mem_of_getElem? (i := 32) (by decide +kernel))) (List.mem_append_right _ (wT_C (mAt (i := 484) (by decide +kernel)))) (List.mem_append_right _ (wT_C (mAt (i := 446) (by decide +kernel))))) rfl rfl rfl (by decide +kernel) (by decide) rfl rfl hl.1 (Nat.le_of_ble_eq_true rfl) dL_about_4 (by decide) (by decide) hP hD hS hA (fun r f1 g1 H locs hk hP hD hS => ?_)
    obtain ⟨y, rfl, hk⟩ := hk
    refine vOutR (W1 := mW ad tc shC f1 g1) (W3 := []) (tgt := 15) hx hb hK2 hP hD hS dL_about_7 dL_about_8 dL_about_9 (by decide) dL_about_15 (fun H locs hP hD hS => ?_)
    exact W.widen (k := 1) (n := 6) (by decide) (by decide) (vx_ret (W.iret (v := 0) hx hb hr (fun t ht hW => ⟨⟨0, f1, g1, _, rfl, hk, by rw [ht]; exact hP, hD⟩, hS.F ht⟩) hS.2.2 dL_about_16))
  · refine vCallX (ad := ad) (sh := shC) (f := f) (g := g) (av := [.inl x1]) (rest := [.int 0, .ref o]) (j := 0) (n := 1) (rm := rtX8_about) (ws := wtX8_about) (thX8_about l hls D ad tc (sa := sa) (rdX8_about hr1)) hx hb hml hown hts hK (ci := 11) rfl (nGoodV goodH wH_T (List.mem_append_left _ (List.mem_of_getElem? (i := 30) (by decide +kernel))) (List.mem_append_left _ (List.mem_of_getElem? (i := 31) (by decide +kernel))) (List.mem_append_left _ (List.mem_of_getElem? (i := 32) (by decide +kernel))) (List.mem_append_right _ (wT_C (mAt (i := 484) (by decide +kernel)))) (List.mem_append_right _ (wT_C (mAt (i := 446) (by decide +kernel))))) rfl rfl rfl (by decide +kernel) (by decide) rfl rfl hl.1 (Nat.le_of_ble_eq_true rfl) dL_about_4 (by decide) (by decide) tB_sub hU hN hZ hB9 (vP1 hP) (vD1 hD) hS hA (fun ce q9 H1 locs1 hP1 hz hk1 hS hce hcv hcl => ?_)
    obtain ⟨hP, hD⟩ := vRest hP hD hP1 hk1
    refine vCaughtZ (own := RL) (cls := "java/util/NoSuchElementException") hx hb hown hts htab (by decide) (by decide) (mIn (List.mem_append_left _ (List.mem_of_getElem? (i := 10) (by decide +kernel)))) (hB9 _ List.mem_cons_self) hce hcv hcl dL_about_12 dL_about_13 hl (by decide) (fun ls => ?_)
    exact vx_ret (W.iret (v := 1) hx hb hr (fun t ht hW => ⟨⟨1, f, g, w, rfl, h2 hr1, by rw [ht]; exact hP, hD⟩, hS.F ht⟩) hS.2.2 dL_about_14)
