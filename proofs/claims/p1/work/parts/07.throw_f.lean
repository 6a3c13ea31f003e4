/-! a helper of the law: the call refuses, the helper's one row of exceptions takes it, 1 is at the top -/
section VHX
variable {p : Program} {l : Launch} {e : Env} {R : Room} {s : State} {m : MethodId} {args : Array Value} {below : List Frame} {meth : Method} {c : Code} {H : Heap} {locs : List Loc} {cells slots : Nat} {Q : State → Prop} {cc : ByteArray} {nL : Nat} {D : va_G} {cl : List vw_C} {ad : Nat → Nat} {tc : Nat → ClassId} {sh : mSh} {A : Nat → Prop} {H0 : Heap} {Ts : List Jvm.Cond} {own : String}
theorem vCaughtX {cls : String} {f : mFn} {g : mGn} {pc h b e0 k0 : Nat} {k : Fin 4} {ls : Array Slot} {rest : List Value} {lv : List (Nat × Value)} {ce : Cell} {q9 : Addr}
    (hx : p.tables.exec = Jvm.exec) (hb : c.code = cc) (hown : s.vm.findClass own = some m.cls) (hts : ∀ w ∈ Ts, w.before args s = true)
    (htab : c.exceptionTable.toList = [⟨b, e0, h, k0⟩]) (hcov : covers ⟨b, e0, h, k0⟩ pc = true) (hk0 : k0 ≠ 0) (hlink : Jvm.Cond.classLink own k0 cls ∈ Ts) (hB : va_Nw (.castable cls cls) s)
    (hcell : H[q9]? = some ce) (hv : ce.vm = .none) (hcl : s.vm.findClass cls = some ce.cls)
    (d0 : decode cc h = .ok (.astore_n k, 1)) (d1 : decode cc (h + 1) = .ok (.iconst 1, 1)) (hl : lv_has ls nL lv) (hkn : (k : Nat) < nL)
    (kk : ∀ ls' : Array Slot, W p l e R s m args below meth c H locs cells slots Q (F0 m (h + 1 + 1) ls' [.int 1])) :
    vx_W p l e R s m args below meth c H locs cells slots Q (F0 m pc ls rest) q9 := by
  refine vx_catch (own := own) (name := cls) (E := cls) hown [] ⟨b, e0, h, k0⟩ [] (by rw [htab]; rfl) (fun z hz => nomatch hz) hcov hk0 (hts _ hlink) (va_Nw.use rfl hB) hcell hv hcl ?_
  exact lv_astore_n hx hb d0 rfl hl hkn rfl (fun ls' _ => lv_iconst hx hb d1 (by decide) (kk ls'))
end VHX
