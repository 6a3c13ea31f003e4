/-! what a throw asks: it stands at every call -/
def vTb (cls : String) : List Jvm.Cond := [.castable cls cls, .declares ⟨"java/lang/RuntimeException", "<init>", "(Ljava/lang/String;)V"⟩, .declares ⟨"java/lang/Exception", "<init>", "(Ljava/lang/String;)V"⟩, .declares ⟨"java/lang/Throwable", "<init>", "(Ljava/lang/String;)V"⟩]
theorem vTb_on (cls : String) : ∀ w ∈ vTb cls, w.onTables = true := by
  intro w hw
  simp only [vTb, List.mem_cons, List.not_mem_nil, or_false] at hw
  rcases hw with rfl | rfl | rfl | rfl <;> rfl
theorem vTb_warm {cls : String} {s U : State} (hW : s.WarmedH U.vm) (h : ∀ w ∈ vTb cls, va_Nw w s) : ∀ w ∈ vTb cls, va_Nw w U := by
  intro w hw
  have h1 := h w hw
  simp only [vTb, List.mem_cons, List.not_mem_nil, or_false] at hw
  rcases hw with rfl | rfl | rfl | rfl
  · exact va_Nw.warmC hW h1
  · exact va_Nw.warmD hW h1
  · exact va_Nw.warmD hW h1
  · exact va_Nw.warmD hW h1
theorem vTw_at {own : String} {is sa : Nat} {text cls : String} {L : List Jvm.Cond} {A A1 : Nat → Prop} {s : State} {H : Heap} {locs : List Loc} (hsub : ∀ w ∈ L.filter (fun w => !goodWord w), w ∈ vTb cls)
    (hU : vx_Zq Bundle.tN "UNASSIGNED_STACK" Bundle.steD A s s.heap) (hN : vx_Zq Bundle.tN "SUPPRESSED_SENTINEL" Bundle.listD A s s.heap) (hR : vk_R own is text sa s) (hB : ∀ w ∈ vTb cls, va_Nw w s) (hS : va_S A s.heap H locs) (hA : ∀ q, A1 q → A q) :
    ∀ (U : State) (args : Array Value), U.heap = H → s.WarmedH U.vm → vTw own is sa text L A1 args U := by
  intro U args hH hW
  refine ⟨?_, ?_, vk_R.warm hW hR, fun w hw => va_Nw.use (vTb_on cls w (hsub w hw)) (vTb_warm hW hB w (hsub w hw))⟩
  · rw [hH]; exact (vx_Zq.moved hW.alike (hU.kept hS.2.1)).narrow hA
  · rw [hH]; exact (vx_Zq.moved hW.alike (hN.kept hS.2.1)).narrow hA
theorem vTw_blind {D : va_G} {cl : List vw_C} {ad : Nat → Nat} {tc : Nat → ClassId} {sh : mSh} {av : List mV} {f : mFn} {g : mGn} {sz : Nat} {own : String} {is sa : Nat} {text cls : String} {L : List Jvm.Cond} {A : Nat → Prop} (hsub : ∀ w ∈ L.filter (fun w => !goodWord w), w ∈ vTb cls) :
    FrameBlind (fun a U => mPc D cl ad tc sh av f g sz a U ∧ vTw own is sa text L A a U) := fun a U g mk q => by
  obtain ⟨q0, q1, q2, q3, q4⟩ := q
  exact ⟨mPc_blind a U g mk q0, vx_Zq.moved (u := U) (U := U.calling g mk a) (Vm.Alike.refl U.vm) q1, vx_Zq.moved (u := U) (U := U.calling g mk a) (Vm.Alike.refl U.vm) q2, vk_R.same rfl q3, fun w hw => va_tabs (vTb_on cls w (hsub w hw)) (rfl : U.vm = (U.calling g mk a).vm) (q4 w hw)⟩
theorem tA_sub : ∀ w ∈ (vx_atS RX8 41 "java/lang/IllegalArgumentException" ["java/lang/RuntimeException", "java/lang/Exception"]).filter (fun w => !goodWord w), w ∈ vTb "java/lang/IllegalArgumentException" := by decide +kernel
theorem tB_sub : ∀ w ∈ (atN RX8 65 "java/util/NoSuchElementException" "java/lang/RuntimeException" 13 prog_28_method_4_code ["java/lang/Exception"]).filter (fun w => !goodWord w), w ∈ vTb "java/util/NoSuchElementException" := by decide +kernel
theorem tC_sub : ∀ w ∈ (vx_atS RX8 78 "java/lang/IndexOutOfBoundsException" ["java/lang/RuntimeException", "java/lang/Exception"]).filter (fun w => !goodWord w), w ∈ vTb "java/lang/IndexOutOfBoundsException" := by decide +kernel
