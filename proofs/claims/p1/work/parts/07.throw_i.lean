/-! a helper of the law: what came back goes to the row 'out', 0 is at the top -/
section VOR
variable {p : Program} {l : Launch} {e : Env} {R : Room} {s : State} {m : MethodId} {args : Array Value} {below : List Frame} {meth : Method} {c : Code} {H : Heap} {locs : List Loc} {cells slots : Nat} {Q : State → Prop} {cc : ByteArray} {D : va_G} {cl : List vw_C} {A : Nat → Prop} {H0 : Heap}
theorem vSet {W1 W3 : va_W} {r r' : Nat × va_E} : (W1 ++ r :: W3).set W1.length r' = W1 ++ r' :: W3 := by
  induction W1 with
  | nil => rfl
  | cons q W1 ih => exact congrArg (q :: ·) ih
theorem vOutR {W1 W3 : va_W} {o : Nat} {cA : ClassId} {w : Nat → Int64} {y : Int32} {pc tgt : Nat} {off : Int} {ls : Array Slot} (hx : p.tables.exec = Jvm.exec) (hb : c.code = cc) (hK2 : va_K D cl [(cA, .long)] s)
    (hP : va_P D cl (W1 ++ (o, .inl (cA, 1, .inr (.inl w))) :: W3) H) (hD : va_D A (W1 ++ (o, .inl (cA, 1, .inr (.inl w))) :: W3)) (hS : va_S A H0 H locs)
    (d0 : decode cc pc = .ok (.i2l, 1)) (d1 : decode cc (pc + 1) = .ok (.lastore, 1)) (d2 : decode cc (pc + 1 + 1) = .ok (.goto off, 3)) (ht : ((pc + 1 + 1 : Nat) : Int) + off = (tgt : Int)) (d3 : decode cc tgt = .ok (.iconst 0, 1))
    (kk : ∀ (H1 : Heap) (locs1 : List Loc), va_P D cl (W1 ++ (o, .inl (cA, 1, .inr (.inl (vp_updL w 0 y.toInt64)))) :: W3) H1 → va_D A (W1 ++ (o, .inl (cA, 1, .inr (.inl (vp_updL w 0 y.toInt64)))) :: W3) → va_S A H0 H1 locs1 → W p l e R s m args below meth c H1 locs1 cells slots Q (F0 m (tgt + 1) ls [.int 0])) :
    W p l e R s m args below meth c H locs cells slots Q (F0 m pc ls [.int y, .int 0, .ref o]) := by
  refine lv_i2l hx hb d0 rfl ?_
  refine va_last hx hb hK2 hP hD hS W1.length 0 (vApp2 (j := 0) rfl) rfl (i := 0) (vp_in_iff.mpr (by decide)) d1 (fun H1 locs1 hP1 hD1 hS1 => ?_)
  rw [vSet] at hP1 hD1
  exact lv_goto hx hb d2 ht (lv_iconst hx hb d3 (by decide) (kk H1 locs1 hP1 hD1 hS1))
end VOR
