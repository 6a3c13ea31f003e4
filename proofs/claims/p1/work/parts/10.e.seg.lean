/-! what the Statement gives at the law's start -/
theorem segMem {F : List Jvm.Cond} {g : Nat → Jvm.Cond} {a n k j : Nat} (h : (F.drop a).take n = (List.range n).map (fun t => g (k + t))) (h1 : k ≤ j) (h2 : j < k + n) : g j ∈ F :=
  List.mem_of_mem_drop (List.mem_of_mem_take (by rw [h]; exact List.mem_map.mpr ⟨j - k, List.mem_range.mpr (by omega), by rw [show k + (j - k) = j by omega]⟩))
def cLd (j : Nat) : Jvm.Cond := .eq (.elem (.static "FlashBoard$Flash" "LOADER" "[I") (.int (Int32.ofNat j))) (.int (ldr j))
def tmS (i : Nat) : Jvm.Term := .string "FlashBoardModel" (scI.getD i 0)
def cSt (i j : Nat) : Jvm.Cond := .eq (.elem (.field (tmS i) "java/lang/String" "value" "[B") (.int (Int32.ofNat j))) (.int ((scB.getD i []).getD j 0))
set_option maxRecDepth 100000 in
theorem seg_L_0 : ((flatC narrow_1_1).drop 5).take 100 = (List.range 100).map (fun t => cLd (0 + t)) := by decide +kernel
set_option maxRecDepth 100000 in
theorem seg_L_100 : ((flatC narrow_1_1).drop 105).take 82 = (List.range 82).map (fun t => cLd (100 + t)) := by decide +kernel
set_option maxRecDepth 100000 in
theorem seg_0_0 : ((flatC narrow_1_3).drop 0).take 100 = (List.range 100).map (fun t => (cSt 0) (0 + t)) := by decide +kernel
set_option maxRecDepth 100000 in
theorem seg_0_100 : ((flatC narrow_1_3).drop 100).take 100 = (List.range 100).map (fun t => (cSt 0) (100 + t)) := by decide +kernel
set_option maxRecDepth 100000 in
theorem seg_0_200 : ((flatC narrow_1_3).drop 200).take 100 = (List.range 100).map (fun t => (cSt 0) (200 + t)) := by decide +kernel
set_option maxRecDepth 100000 in
theorem seg_1_0 : ((flatC narrow_1_3).drop 317).take 83 = (List.range 83).map (fun t => (cSt 1) (0 + t)) := by decide +kernel
set_option maxRecDepth 100000 in
theorem seg_1_83 : ((flatC narrow_1_4).drop 0).take 100 = (List.range 100).map (fun t => (cSt 1) (83 + t)) := by decide +kernel
set_option maxRecDepth 100000 in
theorem seg_1_183 : ((flatC narrow_1_4).drop 100).take 100 = (List.range 100).map (fun t => (cSt 1) (183 + t)) := by decide +kernel
set_option maxRecDepth 100000 in
theorem seg_1_283 : ((flatC narrow_1_4).drop 200).take 17 = (List.range 17).map (fun t => (cSt 1) (283 + t)) := by decide +kernel
set_option maxRecDepth 100000 in
theorem seg_2_0 : ((flatC narrow_1_4).drop 235).take 100 = (List.range 100).map (fun t => (cSt 2) (0 + t)) := by decide +kernel
set_option maxRecDepth 100000 in
theorem seg_2_100 : ((flatC narrow_1_4).drop 335).take 65 = (List.range 65).map (fun t => (cSt 2) (100 + t)) := by decide +kernel
set_option maxRecDepth 100000 in
theorem seg_2_165 : ((flatC narrow_1_5).drop 0).take 100 = (List.range 100).map (fun t => (cSt 2) (165 + t)) := by decide +kernel
set_option maxRecDepth 100000 in
theorem seg_2_265 : ((flatC narrow_1_5).drop 100).take 35 = (List.range 35).map (fun t => (cSt 2) (265 + t)) := by decide +kernel
set_option maxRecDepth 100000 in
theorem seg_3_0 : ((flatC narrow_1_5).drop 154).take 10 = (List.range 10).map (fun t => (cSt 3) (0 + t)) := by decide +kernel
