/-! the law's words lie in the claim's table -/
theorem tIn1 {w : Jvm.Cond} (h : w ∈ tables_1_1) : w ∈ lw_tbl := List.mem_append_right _ (show w ∈ tables_1 from List.mem_append_left _ h)
theorem tIn2 {w : Jvm.Cond} (h : w ∈ tables_1_2) : w ∈ lw_tbl := List.mem_append_right _ (show w ∈ tables_1 from List.mem_append_right _ (List.mem_append_left _ h))
theorem tIn3 {w : Jvm.Cond} (h : w ∈ tables_1_3) : w ∈ lw_tbl := List.mem_append_right _ (show w ∈ tables_1 from List.mem_append_right _ (List.mem_append_right _ (List.mem_append_left _ h)))
theorem tIn4 {w : Jvm.Cond} (h : w ∈ tables_1_4) : w ∈ lw_tbl := List.mem_append_right _ (show w ∈ tables_1 from List.mem_append_right _ (List.mem_append_right _ (List.mem_append_right _ (List.mem_append_left _ h))))
theorem tIn5 {w : Jvm.Cond} (h : w ∈ tables_1_5) : w ∈ lw_tbl := List.mem_append_right _ (show w ∈ tables_1 from List.mem_append_right _ (List.mem_append_right _ (List.mem_append_right _ (List.mem_append_right _ (List.mem_append_left _ h)))))
theorem tIn6 {w : Jvm.Cond} (h : w ∈ tables_1_6) : w ∈ lw_tbl := List.mem_append_right _ (show w ∈ tables_1 from List.mem_append_right _ (List.mem_append_right _ (List.mem_append_right _ (List.mem_append_right _ (List.mem_append_right _ (List.mem_append_left _ h))))))
theorem tIn7 {w : Jvm.Cond} (h : w ∈ tables_1_7) : w ∈ lw_tbl := List.mem_append_right _ (show w ∈ tables_1 from List.mem_append_right _ (List.mem_append_right _ (List.mem_append_right _ (List.mem_append_right _ (List.mem_append_right _ (List.mem_append_right _ (List.mem_append_left _ h)))))))
theorem tIn8 {w : Jvm.Cond} (h : w ∈ tables_1_8) : w ∈ lw_tbl := List.mem_append_right _ (show w ∈ tables_1 from List.mem_append_right _ (List.mem_append_right _ (List.mem_append_right _ (List.mem_append_right _ (List.mem_append_right _ (List.mem_append_right _ (List.mem_append_right _ (h))))))))
theorem pIn1 {q : MethodName × Nat} (h : q ∈ lw_privs_1) : q ∈ lw_privs := List.mem_append_left _ h
theorem sIn1 {w : Jvm.Cond} (h : w ∈ lw_privs_1.map (fun q => Cond.selects q.1.cls q.1 q.1)) : w ∈ lw_tbl := by
  obtain ⟨q, hq, rfl⟩ := List.mem_map.mp h
  exact List.mem_append_left _ (List.mem_map.mpr ⟨q, pIn1 hq, rfl⟩)
theorem pIn2 {q : MethodName × Nat} (h : q ∈ lw_privs_2) : q ∈ lw_privs := List.mem_append_right _ (List.mem_append_left _ h)
theorem sIn2 {w : Jvm.Cond} (h : w ∈ lw_privs_2.map (fun q => Cond.selects q.1.cls q.1 q.1)) : w ∈ lw_tbl := by
  obtain ⟨q, hq, rfl⟩ := List.mem_map.mp h
  exact List.mem_append_left _ (List.mem_map.mpr ⟨q, pIn2 hq, rfl⟩)
theorem pIn3 {q : MethodName × Nat} (h : q ∈ lw_privs_3) : q ∈ lw_privs := List.mem_append_right _ (List.mem_append_right _ (List.mem_append_left _ h))
theorem sIn3 {w : Jvm.Cond} (h : w ∈ lw_privs_3.map (fun q => Cond.selects q.1.cls q.1 q.1)) : w ∈ lw_tbl := by
  obtain ⟨q, hq, rfl⟩ := List.mem_map.mp h
  exact List.mem_append_left _ (List.mem_map.mpr ⟨q, pIn3 hq, rfl⟩)
theorem pIn4 {q : MethodName × Nat} (h : q ∈ lw_privs_4) : q ∈ lw_privs := List.mem_append_right _ (List.mem_append_right _ (List.mem_append_right _ (List.mem_append_left _ h)))
theorem sIn4 {w : Jvm.Cond} (h : w ∈ lw_privs_4.map (fun q => Cond.selects q.1.cls q.1 q.1)) : w ∈ lw_tbl := by
  obtain ⟨q, hq, rfl⟩ := List.mem_map.mp h
  exact List.mem_append_left _ (List.mem_map.mpr ⟨q, pIn4 hq, rfl⟩)
theorem pIn5 {q : MethodName × Nat} (h : q ∈ lw_privs_5) : q ∈ lw_privs := List.mem_append_right _ (List.mem_append_right _ (List.mem_append_right _ (List.mem_append_right _ (List.mem_append_left _ h))))
theorem sIn5 {w : Jvm.Cond} (h : w ∈ lw_privs_5.map (fun q => Cond.selects q.1.cls q.1 q.1)) : w ∈ lw_tbl := by
  obtain ⟨q, hq, rfl⟩ := List.mem_map.mp h
  exact List.mem_append_left _ (List.mem_map.mpr ⟨q, pIn5 hq, rfl⟩)
theorem pIn6 {q : MethodName × Nat} (h : q ∈ lw_privs_6) : q ∈ lw_privs := List.mem_append_right _ (List.mem_append_right _ (List.mem_append_right _ (List.mem_append_right _ (List.mem_append_right _ (List.mem_append_left _ h)))))
theorem sIn6 {w : Jvm.Cond} (h : w ∈ lw_privs_6.map (fun q => Cond.selects q.1.cls q.1 q.1)) : w ∈ lw_tbl := by
  obtain ⟨q, hq, rfl⟩ := List.mem_map.mp h
  exact List.mem_append_left _ (List.mem_map.mpr ⟨q, pIn6 hq, rfl⟩)
theorem pIn7 {q : MethodName × Nat} (h : q ∈ lw_privs_7) : q ∈ lw_privs := List.mem_append_right _ (List.mem_append_right _ (List.mem_append_right _ (List.mem_append_right _ (List.mem_append_right _ (List.mem_append_right _ (h))))))
theorem sIn7 {w : Jvm.Cond} (h : w ∈ lw_privs_7.map (fun q => Cond.selects q.1.cls q.1 q.1)) : w ∈ lw_tbl := by
  obtain ⟨q, hq, rfl⟩ := List.mem_map.mp h
  exact List.mem_append_left _ (List.mem_map.mpr ⟨q, pIn7 hq, rfl⟩)
def wL0 : List Jvm.Cond := [.classLink RL 8 RX8,
  .instantiable RX8 7,
  .initialized RX8,
  .classLink RL 50 RX9,
  .instantiable RX9 39,
  .initialized RX9,
  .methodLink RL 49 yX8_init,
  .instanceMethod yX8_init,
  .code yX8_init cX8_init 1 none,
  .methodLink RL 52 yX9_init,
  .instanceMethod yX9_init,
  .code yX9_init cX9_init 2 none,
  .arrayClass .long,
  .initialized RL,
  .methodLink RL 53 yX8_step,
  .instanceMethod yX8_step,
  .selects RX8 yX8_step yX8_step,
  .code yX8_step cX8_step 1 (some .int),
  .methodLink RL 57 yX9_step,
  .instanceMethod yX9_step,
  .selects RX9 yX9_step yX9_step,
  .code yX9_step cX9_step 1 (some .int),
  .methodLink RL 58 yL_run,
  .static yL_run,
  .codeWith yL_run cL_run 4 (some .int) [(0, 9, 12, 13)],
  .methodLink RL 63 yX9_run,
  .instanceMethod yX9_run,
  .selects RX9 yX9_run yX9_run,
  .code yX9_run cX9_run 4 (some .int),
  .methodLink RL 64 yX9_thrown,
  .instanceMethod yX9_thrown,
  .selects RX9 yX9_thrown yX9_thrown,
  .code yX9_thrown cX9_thrown 1 (some .int),
  .methodLink RL 67 yL_pass,
  .static yL_pass,
  .codeWith yL_pass cL_pass 4 (some .int) [(0, 9, 12, 13)],
  .methodLink RL 69 yX9_pass,
  .instanceMethod yX9_pass,
  .selects RX9 yX9_pass yX9_pass,
  .code yX9_pass cX9_pass 3 (some .int),
  .methodLink RL 70 yX8_host,
  .instanceMethod yX8_host,
  .selects RX8 yX8_host yX8_host,
  .code yX8_host cX8_host 2 (some .int),
  .methodLink RL 73 yX9_host,
  .instanceMethod yX9_host,
  .selects RX9 yX9_host yX9_host,
  .code yX9_host cX9_host 2 (some .int),
  .methodLink RL 74 yX8_sent,
  .instanceMethod yX8_sent,
  .selects RX8 yX8_sent yX8_sent,
  .code yX8_sent cX8_sent 1 (some .int),
  .methodLink RL 77 yX9_sent,
  .instanceMethod yX9_sent,
  .selects RX9 yX9_sent yX9_sent,
  .code yX9_sent cX9_sent 1 (some .int),
  .methodLink RL 78 yL_got,
  .static yL_got,
  .codeWith yL_got cL_got 4 (some .int) [(0, 9, 12, 21)],
  .methodLink RL 80 yX9_got,
  .instanceMethod yX9_got,
  .selects RX9 yX9_got yX9_got,
  .code yX9_got cX9_got 2 (some .int),
  .methodLink RL 81 yL_burn,
  .static yL_burn,
  .codeWith yL_burn cL_burn 9 (some .int) [(0, 18, 21, 27)],
  .methodLink RL 84 yX9_burn,
  .instanceMethod yX9_burn,
  .selects RX9 yX9_burn yX9_burn,
  .code yX9_burn cX9_burn 8 (some .int),
  .methodLink RL 85 yL_word,
  .static yL_word,
  .codeWith yL_word cL_word 4 (some .int) [(0, 9, 12, 27)],
  .methodLink RL 87 yX9_word,
  .instanceMethod yX9_word,
  .selects RX9 yX9_word yX9_word,
  .code yX9_word cX9_word 2 (some .int),
  .methodLink RL 88 yL_data,
  .static yL_data,
  .codeWith yL_data cL_data 4 (some .int) [(0, 9, 12, 27)],
  .methodLink RL 90 yX9_data,
  .instanceMethod yX9_data,
  .selects RX9 yX9_data yX9_data,
  .code yX9_data cX9_data 2 (some .int),
  .methodLink RL 91 yL_put,
  .static yL_put,
  .codeWith yL_put cL_put 4 (some .int) [(0, 6, 9, 27)],
  .methodLink RL 94 yX9_put,
  .instanceMethod yX9_put,
  .selects RX9 yX9_put yX9_put,
  .code yX9_put cX9_put 3 none,
  .methodLink RL 95 yL_eeprom,
  .static yL_eeprom,
  .codeWith yL_eeprom cL_eeprom 4 (some .int) [(0, 9, 12, 27)],
  .methodLink RL 97 yX9_eeprom,
  .instanceMethod yX9_eeprom,
  .selects RX9 yX9_eeprom yX9_eeprom,
  .code yX9_eeprom cX9_eeprom 2 (some .int),
  .methodLink RL 98 yX8_pins,
  .instanceMethod yX8_pins,
  .selects RX8 yX8_pins yX8_pins,
  .code yX8_pins cX8_pins 3 (some .int),
  .methodLink RL 101 yX9_pins,
  .instanceMethod yX9_pins,
  .selects RX9 yX9_pins yX9_pins,
  .code yX9_pins cX9_pins 3 (some .int),
  .methodLink RL 102 yX8_fuses,
  .instanceMethod yX8_fuses,
  .selects RX8 yX8_fuses yX8_fuses,
  .code yX8_fuses cX8_fuses 4 (some .int),
  .methodLink RL 105 yX9_fuses,
  .instanceMethod yX9_fuses,
  .selects RX9 yX9_fuses yX9_fuses,
  .code yX9_fuses cX9_fuses 3 (some .int),
  .methodLink RL 106 yL_start,
  .static yL_start,
  .codeWith yL_start cL_start 3 (some .int) [(0, 5, 8, 27)],
  .methodLink RL 109 yX9_start,
  .instanceMethod yX9_start,
  .selects RX9 yX9_start yX9_start,
  .code yX9_start cX9_start 2 none,
  .methodLink RL 110 yX8_reset,
  .instanceMethod yX8_reset,
  .selects RX8 yX8_reset yX8_reset,
  .code yX8_reset cX8_reset 1 none,
  .methodLink RL 113 yX9_reset,
  .instanceMethod yX9_reset,
  .selects RX9 yX9_reset yX9_reset,
  .code yX9_reset cX9_reset 1 none,
  .methodLink RL 114 yX8_power,
  .instanceMethod yX8_power,
  .selects RX8 yX8_power yX8_power,
  .code yX8_power cX8_power 3 (some .boolean),
  .methodLink RL 118 yX9_power,
  .instanceMethod yX9_power,
  .selects RX9 yX9_power yX9_power,
  .code yX9_power cX9_power 4 (some .boolean),
  .methodLink RL 119 yL_about,
  .static yL_about,
  .codeWith yL_about cL_about 4 (some .int) [(0, 9, 12, 21)],
  .methodLink RL 121 yX9_about,
  .instanceMethod yX9_about,
  .selects RX9 yX9_about yX9_about,
  .code yX9_about cX9_about 4 (some .int)]
set_option maxRecDepth 100000 in
theorem goodL0 : wL0.all goodWord = true := by decide +kernel
def wL0_0 : List Jvm.Cond := [.classLink RL 8 RX8, .instantiable RX8 7, .initialized RX8, .classLink RL 50 RX9, .instantiable RX9 39, .initialized RX9, .methodLink RL 49 yX8_init, .instanceMethod yX8_init, .code yX8_init cX8_init 1 none, .methodLink RL 52 yX9_init, .instanceMethod yX9_init, .code yX9_init cX9_init 2 none, .arrayClass .long, .initialized RL, .methodLink RL 53 yX8_step, .instanceMethod yX8_step, .selects RX8 yX8_step yX8_step, .code yX8_step cX8_step 1 (some .int), .methodLink RL 57 yX9_step, .instanceMethod yX9_step, .selects RX9 yX9_step yX9_step, .code yX9_step cX9_step 1 (some .int), .methodLink RL 58 yL_run, .static yL_run]
set_option maxRecDepth 100000 in
theorem lB_wL0_0 : ∀ w ∈ wL0_0, w ∈ lw_tbl :=
  List.forall_mem_cons.mpr ⟨tIn1 (List.mem_of_getElem? (i := 29) (by decide +kernel)), List.forall_mem_cons.mpr ⟨tIn1 (List.mem_of_getElem? (i := 30) (by decide +kernel)), List.forall_mem_cons.mpr ⟨tIn1 (List.mem_of_getElem? (i := 1) (by decide +kernel)), List.forall_mem_cons.mpr ⟨tIn6 (List.mem_of_getElem? (i := 12) (by decide +kernel)), List.forall_mem_cons.mpr ⟨tIn6 (List.mem_of_getElem? (i := 13) (by decide +kernel)), List.forall_mem_cons.mpr ⟨tIn1 (List.mem_of_getElem? (i := 27) (by decide +kernel)), List.forall_mem_cons.mpr ⟨tIn1 (List.mem_of_getElem? (i := 31) (by decide +kernel)), List.forall_mem_cons.mpr ⟨tIn1 (List.mem_of_getElem? (i := 32) (by decide +kernel)), List.forall_mem_cons.mpr ⟨tIn1 (List.mem_of_getElem? (i := 33) (by decide +kernel)), List.forall_mem_cons.mpr ⟨tIn6 (List.mem_of_getElem? (i := 14) (by decide +kernel)), List.forall_mem_cons.mpr ⟨tIn6 (List.mem_of_getElem? (i := 15) (by decide +kernel)), List.forall_mem_cons.mpr ⟨tIn6 (List.mem_of_getElem? (i := 16) (by decide +kernel)), List.forall_mem_cons.mpr ⟨tIn8 (List.mem_of_getElem? (i := 27) (by decide +kernel)), List.forall_mem_cons.mpr ⟨tIn1 (List.mem_of_getElem? (i := 0) (by decide +kernel)), List.forall_mem_cons.mpr ⟨tIn3 (List.mem_of_getElem? (i := 199) (by decide +kernel)), List.forall_mem_cons.mpr ⟨tIn3 (List.mem_of_getElem? (i := 200) (by decide +kernel)), List.forall_mem_cons.mpr ⟨tIn3 (List.mem_of_getElem? (i := 201) (by decide +kernel)), List.forall_mem_cons.mpr ⟨tIn3 (List.mem_of_getElem? (i := 202) (by decide +kernel)), List.forall_mem_cons.mpr ⟨tIn6 (List.mem_of_getElem? (i := 190) (by decide +kernel)), List.forall_mem_cons.mpr ⟨tIn6 (List.mem_of_getElem? (i := 191) (by decide +kernel)), List.forall_mem_cons.mpr ⟨tIn6 (List.mem_of_getElem? (i := 192) (by decide +kernel)), List.forall_mem_cons.mpr ⟨tIn6 (List.mem_of_getElem? (i := 193) (by decide +kernel)), List.forall_mem_cons.mpr ⟨tIn5 (List.mem_of_getElem? (i := 119) (by decide +kernel)), List.forall_mem_cons.mpr ⟨tIn5 (List.mem_of_getElem? (i := 120) (by decide +kernel)), fun _ h => absurd h List.not_mem_nil⟩⟩⟩⟩⟩⟩⟩⟩⟩⟩⟩⟩⟩⟩⟩⟩⟩⟩⟩⟩⟩⟩⟩⟩
def wL0_1 : List Jvm.Cond := [.codeWith yL_run cL_run 4 (some .int) [(0, 9, 12, 13)], .methodLink RL 63 yX9_run, .instanceMethod yX9_run, .selects RX9 yX9_run yX9_run, .code yX9_run cX9_run 4 (some .int), .methodLink RL 64 yX9_thrown, .instanceMethod yX9_thrown, .selects RX9 yX9_thrown yX9_thrown, .code yX9_thrown cX9_thrown 1 (some .int), .methodLink RL 67 yL_pass, .static yL_pass, .codeWith yL_pass cL_pass 4 (some .int) [(0, 9, 12, 13)], .methodLink RL 69 yX9_pass, .instanceMethod yX9_pass, .selects RX9 yX9_pass yX9_pass, .code yX9_pass cX9_pass 3 (some .int), .methodLink RL 70 yX8_host, .instanceMethod yX8_host, .selects RX8 yX8_host yX8_host, .code yX8_host cX8_host 2 (some .int), .methodLink RL 73 yX9_host, .instanceMethod yX9_host, .selects RX9 yX9_host yX9_host, .code yX9_host cX9_host 2 (some .int)]
set_option maxRecDepth 100000 in
theorem lB_wL0_1 : ∀ w ∈ wL0_1, w ∈ lw_tbl :=
  List.forall_mem_cons.mpr ⟨tIn5 (List.mem_of_getElem? (i := 121) (by decide +kernel)), List.forall_mem_cons.mpr ⟨tIn7 (List.mem_of_getElem? (i := 194) (by decide +kernel)), List.forall_mem_cons.mpr ⟨tIn7 (List.mem_of_getElem? (i := 195) (by decide +kernel)), List.forall_mem_cons.mpr ⟨tIn7 (List.mem_of_getElem? (i := 196) (by decide +kernel)), List.forall_mem_cons.mpr ⟨tIn7 (List.mem_of_getElem? (i := 197) (by decide +kernel)), List.forall_mem_cons.mpr ⟨tIn6 (List.mem_of_getElem? (i := 186) (by decide +kernel)), List.forall_mem_cons.mpr ⟨tIn6 (List.mem_of_getElem? (i := 187) (by decide +kernel)), List.forall_mem_cons.mpr ⟨tIn6 (List.mem_of_getElem? (i := 188) (by decide +kernel)), List.forall_mem_cons.mpr ⟨tIn6 (List.mem_of_getElem? (i := 189) (by decide +kernel)), List.forall_mem_cons.mpr ⟨tIn5 (List.mem_of_getElem? (i := 130) (by decide +kernel)), List.forall_mem_cons.mpr ⟨tIn5 (List.mem_of_getElem? (i := 131) (by decide +kernel)), List.forall_mem_cons.mpr ⟨tIn5 (List.mem_of_getElem? (i := 132) (by decide +kernel)), List.forall_mem_cons.mpr ⟨tIn7 (List.mem_of_getElem? (i := 202) (by decide +kernel)), List.forall_mem_cons.mpr ⟨tIn7 (List.mem_of_getElem? (i := 203) (by decide +kernel)), List.forall_mem_cons.mpr ⟨tIn7 (List.mem_of_getElem? (i := 204) (by decide +kernel)), List.forall_mem_cons.mpr ⟨tIn7 (List.mem_of_getElem? (i := 205) (by decide +kernel)), List.forall_mem_cons.mpr ⟨tIn5 (List.mem_of_getElem? (i := 91) (by decide +kernel)), List.forall_mem_cons.mpr ⟨tIn5 (List.mem_of_getElem? (i := 92) (by decide +kernel)), List.forall_mem_cons.mpr ⟨tIn5 (List.mem_of_getElem? (i := 93) (by decide +kernel)), List.forall_mem_cons.mpr ⟨tIn5 (List.mem_of_getElem? (i := 94) (by decide +kernel)), List.forall_mem_cons.mpr ⟨tIn7 (List.mem_of_getElem? (i := 207) (by decide +kernel)), List.forall_mem_cons.mpr ⟨tIn7 (List.mem_of_getElem? (i := 208) (by decide +kernel)), List.forall_mem_cons.mpr ⟨tIn7 (List.mem_of_getElem? (i := 209) (by decide +kernel)), List.forall_mem_cons.mpr ⟨tIn7 (List.mem_of_getElem? (i := 210) (by decide +kernel)), fun _ h => absurd h List.not_mem_nil⟩⟩⟩⟩⟩⟩⟩⟩⟩⟩⟩⟩⟩⟩⟩⟩⟩⟩⟩⟩⟩⟩⟩⟩
def wL0_2 : List Jvm.Cond := [.methodLink RL 74 yX8_sent, .instanceMethod yX8_sent, .selects RX8 yX8_sent yX8_sent, .code yX8_sent cX8_sent 1 (some .int), .methodLink RL 77 yX9_sent, .instanceMethod yX9_sent, .selects RX9 yX9_sent yX9_sent, .code yX9_sent cX9_sent 1 (some .int), .methodLink RL 78 yL_got, .static yL_got, .codeWith yL_got cL_got 4 (some .int) [(0, 9, 12, 21)], .methodLink RL 80 yX9_got, .instanceMethod yX9_got, .selects RX9 yX9_got yX9_got, .code yX9_got cX9_got 2 (some .int), .methodLink RL 81 yL_burn, .static yL_burn, .codeWith yL_burn cL_burn 9 (some .int) [(0, 18, 21, 27)], .methodLink RL 84 yX9_burn, .instanceMethod yX9_burn, .selects RX9 yX9_burn yX9_burn, .code yX9_burn cX9_burn 8 (some .int), .methodLink RL 85 yL_word, .static yL_word]
set_option maxRecDepth 100000 in
theorem lB_wL0_2 : ∀ w ∈ wL0_2, w ∈ lw_tbl :=
  List.forall_mem_cons.mpr ⟨tIn5 (List.mem_of_getElem? (i := 99) (by decide +kernel)), List.forall_mem_cons.mpr ⟨tIn5 (List.mem_of_getElem? (i := 100) (by decide +kernel)), List.forall_mem_cons.mpr ⟨tIn5 (List.mem_of_getElem? (i := 101) (by decide +kernel)), List.forall_mem_cons.mpr ⟨tIn5 (List.mem_of_getElem? (i := 102) (by decide +kernel)), List.forall_mem_cons.mpr ⟨tIn7 (List.mem_of_getElem? (i := 211) (by decide +kernel)), List.forall_mem_cons.mpr ⟨tIn7 (List.mem_of_getElem? (i := 212) (by decide +kernel)), List.forall_mem_cons.mpr ⟨tIn7 (List.mem_of_getElem? (i := 213) (by decide +kernel)), List.forall_mem_cons.mpr ⟨tIn7 (List.mem_of_getElem? (i := 214) (by decide +kernel)), List.forall_mem_cons.mpr ⟨tIn5 (List.mem_of_getElem? (i := 139) (by decide +kernel)), List.forall_mem_cons.mpr ⟨tIn5 (List.mem_of_getElem? (i := 140) (by decide +kernel)), List.forall_mem_cons.mpr ⟨tIn5 (List.mem_of_getElem? (i := 141) (by decide +kernel)), List.forall_mem_cons.mpr ⟨tIn7 (List.mem_of_getElem? (i := 215) (by decide +kernel)), List.forall_mem_cons.mpr ⟨tIn7 (List.mem_of_getElem? (i := 216) (by decide +kernel)), List.forall_mem_cons.mpr ⟨tIn7 (List.mem_of_getElem? (i := 217) (by decide +kernel)), List.forall_mem_cons.mpr ⟨tIn7 (List.mem_of_getElem? (i := 218) (by decide +kernel)), List.forall_mem_cons.mpr ⟨tIn5 (List.mem_of_getElem? (i := 163) (by decide +kernel)), List.forall_mem_cons.mpr ⟨tIn5 (List.mem_of_getElem? (i := 164) (by decide +kernel)), List.forall_mem_cons.mpr ⟨tIn5 (List.mem_of_getElem? (i := 165) (by decide +kernel)), List.forall_mem_cons.mpr ⟨tIn7 (List.mem_of_getElem? (i := 219) (by decide +kernel)), List.forall_mem_cons.mpr ⟨tIn7 (List.mem_of_getElem? (i := 220) (by decide +kernel)), List.forall_mem_cons.mpr ⟨tIn7 (List.mem_of_getElem? (i := 221) (by decide +kernel)), List.forall_mem_cons.mpr ⟨tIn7 (List.mem_of_getElem? (i := 222) (by decide +kernel)), List.forall_mem_cons.mpr ⟨tIn5 (List.mem_of_getElem? (i := 191) (by decide +kernel)), List.forall_mem_cons.mpr ⟨tIn5 (List.mem_of_getElem? (i := 192) (by decide +kernel)), fun _ h => absurd h List.not_mem_nil⟩⟩⟩⟩⟩⟩⟩⟩⟩⟩⟩⟩⟩⟩⟩⟩⟩⟩⟩⟩⟩⟩⟩⟩
def wL0_3 : List Jvm.Cond := [.codeWith yL_word cL_word 4 (some .int) [(0, 9, 12, 27)], .methodLink RL 87 yX9_word, .instanceMethod yX9_word, .selects RX9 yX9_word yX9_word, .code yX9_word cX9_word 2 (some .int), .methodLink RL 88 yL_data, .static yL_data, .codeWith yL_data cL_data 4 (some .int) [(0, 9, 12, 27)], .methodLink RL 90 yX9_data, .instanceMethod yX9_data, .selects RX9 yX9_data yX9_data, .code yX9_data cX9_data 2 (some .int), .methodLink RL 91 yL_put, .static yL_put, .codeWith yL_put cL_put 4 (some .int) [(0, 6, 9, 27)], .methodLink RL 94 yX9_put, .instanceMethod yX9_put, .selects RX9 yX9_put yX9_put, .code yX9_put cX9_put 3 none, .methodLink RL 95 yL_eeprom, .static yL_eeprom, .codeWith yL_eeprom cL_eeprom 4 (some .int) [(0, 9, 12, 27)], .methodLink RL 97 yX9_eeprom, .instanceMethod yX9_eeprom]
set_option maxRecDepth 100000 in
theorem lB_wL0_3 : ∀ w ∈ wL0_3, w ∈ lw_tbl :=
  List.forall_mem_cons.mpr ⟨tIn5 (List.mem_of_getElem? (i := 193) (by decide +kernel)), List.forall_mem_cons.mpr ⟨tIn7 (List.mem_of_getElem? (i := 227) (by decide +kernel)), List.forall_mem_cons.mpr ⟨tIn7 (List.mem_of_getElem? (i := 228) (by decide +kernel)), List.forall_mem_cons.mpr ⟨tIn7 (List.mem_of_getElem? (i := 229) (by decide +kernel)), List.forall_mem_cons.mpr ⟨tIn7 (List.mem_of_getElem? (i := 230) (by decide +kernel)), List.forall_mem_cons.mpr ⟨tIn5 (List.mem_of_getElem? (i := 198) (by decide +kernel)), List.forall_mem_cons.mpr ⟨tIn5 (List.mem_of_getElem? (i := 199) (by decide +kernel)), List.forall_mem_cons.mpr ⟨tIn5 (List.mem_of_getElem? (i := 200) (by decide +kernel)), List.forall_mem_cons.mpr ⟨tIn7 (List.mem_of_getElem? (i := 231) (by decide +kernel)), List.forall_mem_cons.mpr ⟨tIn7 (List.mem_of_getElem? (i := 232) (by decide +kernel)), List.forall_mem_cons.mpr ⟨tIn7 (List.mem_of_getElem? (i := 233) (by decide +kernel)), List.forall_mem_cons.mpr ⟨tIn7 (List.mem_of_getElem? (i := 234) (by decide +kernel)), List.forall_mem_cons.mpr ⟨tIn5 (List.mem_of_getElem? (i := 211) (by decide +kernel)), List.forall_mem_cons.mpr ⟨tIn5 (List.mem_of_getElem? (i := 212) (by decide +kernel)), List.forall_mem_cons.mpr ⟨tIn5 (List.mem_of_getElem? (i := 213) (by decide +kernel)), List.forall_mem_cons.mpr ⟨tIn7 (List.mem_of_getElem? (i := 235) (by decide +kernel)), List.forall_mem_cons.mpr ⟨tIn7 (List.mem_of_getElem? (i := 236) (by decide +kernel)), List.forall_mem_cons.mpr ⟨tIn7 (List.mem_of_getElem? (i := 237) (by decide +kernel)), List.forall_mem_cons.mpr ⟨tIn7 (List.mem_of_getElem? (i := 238) (by decide +kernel)), List.forall_mem_cons.mpr ⟨tIn5 (List.mem_of_getElem? (i := 222) (by decide +kernel)), List.forall_mem_cons.mpr ⟨tIn5 (List.mem_of_getElem? (i := 223) (by decide +kernel)), List.forall_mem_cons.mpr ⟨tIn5 (List.mem_of_getElem? (i := 224) (by decide +kernel)), List.forall_mem_cons.mpr ⟨tIn7 (List.mem_of_getElem? (i := 239) (by decide +kernel)), List.forall_mem_cons.mpr ⟨tIn8 (List.mem_of_getElem? (i := 0) (by decide +kernel)), fun _ h => absurd h List.not_mem_nil⟩⟩⟩⟩⟩⟩⟩⟩⟩⟩⟩⟩⟩⟩⟩⟩⟩⟩⟩⟩⟩⟩⟩⟩
def wL0_4 : List Jvm.Cond := [.selects RX9 yX9_eeprom yX9_eeprom, .code yX9_eeprom cX9_eeprom 2 (some .int), .methodLink RL 98 yX8_pins, .instanceMethod yX8_pins, .selects RX8 yX8_pins yX8_pins, .code yX8_pins cX8_pins 3 (some .int), .methodLink RL 101 yX9_pins, .instanceMethod yX9_pins, .selects RX9 yX9_pins yX9_pins, .code yX9_pins cX9_pins 3 (some .int), .methodLink RL 102 yX8_fuses, .instanceMethod yX8_fuses, .selects RX8 yX8_fuses yX8_fuses, .code yX8_fuses cX8_fuses 4 (some .int), .methodLink RL 105 yX9_fuses, .instanceMethod yX9_fuses, .selects RX9 yX9_fuses yX9_fuses, .code yX9_fuses cX9_fuses 3 (some .int), .methodLink RL 106 yL_start, .static yL_start, .codeWith yL_start cL_start 3 (some .int) [(0, 5, 8, 27)], .methodLink RL 109 yX9_start, .instanceMethod yX9_start, .selects RX9 yX9_start yX9_start]
set_option maxRecDepth 100000 in
theorem lB_wL0_4 : ∀ w ∈ wL0_4, w ∈ lw_tbl :=
  List.forall_mem_cons.mpr ⟨tIn8 (List.mem_of_getElem? (i := 1) (by decide +kernel)), List.forall_mem_cons.mpr ⟨tIn8 (List.mem_of_getElem? (i := 2) (by decide +kernel)), List.forall_mem_cons.mpr ⟨tIn5 (List.mem_of_getElem? (i := 103) (by decide +kernel)), List.forall_mem_cons.mpr ⟨tIn5 (List.mem_of_getElem? (i := 104) (by decide +kernel)), List.forall_mem_cons.mpr ⟨tIn5 (List.mem_of_getElem? (i := 105) (by decide +kernel)), List.forall_mem_cons.mpr ⟨tIn5 (List.mem_of_getElem? (i := 106) (by decide +kernel)), List.forall_mem_cons.mpr ⟨tIn8 (List.mem_of_getElem? (i := 3) (by decide +kernel)), List.forall_mem_cons.mpr ⟨tIn8 (List.mem_of_getElem? (i := 4) (by decide +kernel)), List.forall_mem_cons.mpr ⟨tIn8 (List.mem_of_getElem? (i := 5) (by decide +kernel)), List.forall_mem_cons.mpr ⟨tIn8 (List.mem_of_getElem? (i := 6) (by decide +kernel)), List.forall_mem_cons.mpr ⟨tIn5 (List.mem_of_getElem? (i := 107) (by decide +kernel)), List.forall_mem_cons.mpr ⟨tIn5 (List.mem_of_getElem? (i := 108) (by decide +kernel)), List.forall_mem_cons.mpr ⟨tIn5 (List.mem_of_getElem? (i := 109) (by decide +kernel)), List.forall_mem_cons.mpr ⟨tIn5 (List.mem_of_getElem? (i := 110) (by decide +kernel)), List.forall_mem_cons.mpr ⟨tIn8 (List.mem_of_getElem? (i := 7) (by decide +kernel)), List.forall_mem_cons.mpr ⟨tIn8 (List.mem_of_getElem? (i := 8) (by decide +kernel)), List.forall_mem_cons.mpr ⟨tIn8 (List.mem_of_getElem? (i := 9) (by decide +kernel)), List.forall_mem_cons.mpr ⟨tIn8 (List.mem_of_getElem? (i := 10) (by decide +kernel)), List.forall_mem_cons.mpr ⟨tIn5 (List.mem_of_getElem? (i := 230) (by decide +kernel)), List.forall_mem_cons.mpr ⟨tIn5 (List.mem_of_getElem? (i := 231) (by decide +kernel)), List.forall_mem_cons.mpr ⟨tIn5 (List.mem_of_getElem? (i := 232) (by decide +kernel)), List.forall_mem_cons.mpr ⟨tIn8 (List.mem_of_getElem? (i := 11) (by decide +kernel)), List.forall_mem_cons.mpr ⟨tIn8 (List.mem_of_getElem? (i := 12) (by decide +kernel)), List.forall_mem_cons.mpr ⟨tIn8 (List.mem_of_getElem? (i := 13) (by decide +kernel)), fun _ h => absurd h List.not_mem_nil⟩⟩⟩⟩⟩⟩⟩⟩⟩⟩⟩⟩⟩⟩⟩⟩⟩⟩⟩⟩⟩⟩⟩⟩
def wL0_5 : List Jvm.Cond := [.code yX9_start cX9_start 2 none, .methodLink RL 110 yX8_reset, .instanceMethod yX8_reset, .selects RX8 yX8_reset yX8_reset, .code yX8_reset cX8_reset 1 none, .methodLink RL 113 yX9_reset, .instanceMethod yX9_reset, .selects RX9 yX9_reset yX9_reset, .code yX9_reset cX9_reset 1 none, .methodLink RL 114 yX8_power, .instanceMethod yX8_power, .selects RX8 yX8_power yX8_power, .code yX8_power cX8_power 3 (some .boolean), .methodLink RL 118 yX9_power, .instanceMethod yX9_power, .selects RX9 yX9_power yX9_power, .code yX9_power cX9_power 4 (some .boolean), .methodLink RL 119 yL_about, .static yL_about, .codeWith yL_about cL_about 4 (some .int) [(0, 9, 12, 21)], .methodLink RL 121 yX9_about, .instanceMethod yX9_about, .selects RX9 yX9_about yX9_about, .code yX9_about cX9_about 4 (some .int)]
set_option maxRecDepth 100000 in
theorem lB_wL0_5 : ∀ w ∈ wL0_5, w ∈ lw_tbl :=
  List.forall_mem_cons.mpr ⟨tIn8 (List.mem_of_getElem? (i := 14) (by decide +kernel)), List.forall_mem_cons.mpr ⟨tIn5 (List.mem_of_getElem? (i := 111) (by decide +kernel)), List.forall_mem_cons.mpr ⟨tIn5 (List.mem_of_getElem? (i := 112) (by decide +kernel)), List.forall_mem_cons.mpr ⟨tIn5 (List.mem_of_getElem? (i := 113) (by decide +kernel)), List.forall_mem_cons.mpr ⟨tIn5 (List.mem_of_getElem? (i := 114) (by decide +kernel)), List.forall_mem_cons.mpr ⟨tIn8 (List.mem_of_getElem? (i := 15) (by decide +kernel)), List.forall_mem_cons.mpr ⟨tIn8 (List.mem_of_getElem? (i := 16) (by decide +kernel)), List.forall_mem_cons.mpr ⟨tIn8 (List.mem_of_getElem? (i := 17) (by decide +kernel)), List.forall_mem_cons.mpr ⟨tIn8 (List.mem_of_getElem? (i := 18) (by decide +kernel)), List.forall_mem_cons.mpr ⟨tIn5 (List.mem_of_getElem? (i := 115) (by decide +kernel)), List.forall_mem_cons.mpr ⟨tIn5 (List.mem_of_getElem? (i := 116) (by decide +kernel)), List.forall_mem_cons.mpr ⟨tIn5 (List.mem_of_getElem? (i := 117) (by decide +kernel)), List.forall_mem_cons.mpr ⟨tIn5 (List.mem_of_getElem? (i := 118) (by decide +kernel)), List.forall_mem_cons.mpr ⟨tIn8 (List.mem_of_getElem? (i := 19) (by decide +kernel)), List.forall_mem_cons.mpr ⟨tIn8 (List.mem_of_getElem? (i := 20) (by decide +kernel)), List.forall_mem_cons.mpr ⟨tIn8 (List.mem_of_getElem? (i := 21) (by decide +kernel)), List.forall_mem_cons.mpr ⟨tIn8 (List.mem_of_getElem? (i := 22) (by decide +kernel)), List.forall_mem_cons.mpr ⟨tIn5 (List.mem_of_getElem? (i := 237) (by decide +kernel)), List.forall_mem_cons.mpr ⟨tIn5 (List.mem_of_getElem? (i := 238) (by decide +kernel)), List.forall_mem_cons.mpr ⟨tIn5 (List.mem_of_getElem? (i := 239) (by decide +kernel)), List.forall_mem_cons.mpr ⟨tIn8 (List.mem_of_getElem? (i := 23) (by decide +kernel)), List.forall_mem_cons.mpr ⟨tIn8 (List.mem_of_getElem? (i := 24) (by decide +kernel)), List.forall_mem_cons.mpr ⟨tIn8 (List.mem_of_getElem? (i := 25) (by decide +kernel)), List.forall_mem_cons.mpr ⟨tIn8 (List.mem_of_getElem? (i := 26) (by decide +kernel)), fun _ h => absurd h List.not_mem_nil⟩⟩⟩⟩⟩⟩⟩⟩⟩⟩⟩⟩⟩⟩⟩⟩⟩⟩⟩⟩⟩⟩⟩⟩
set_option maxRecDepth 100000 in
theorem lE_wL0 : wL0 = wL0_0 ++ (wL0_1 ++ (wL0_2 ++ (wL0_3 ++ (wL0_4 ++ (wL0_5))))) := rfl
theorem lA_L0 : ∀ w ∈ wL0, w ∈ lw_tbl := by
  rw [lE_wL0]
  exact List.forall_mem_append.mpr ⟨lB_wL0_0, List.forall_mem_append.mpr ⟨lB_wL0_1, List.forall_mem_append.mpr ⟨lB_wL0_2, List.forall_mem_append.mpr ⟨lB_wL0_3, List.forall_mem_append.mpr ⟨lB_wL0_4, lB_wL0_5⟩⟩⟩⟩⟩
def wH0_0 : List Jvm.Cond := [.methodLink RL 7 yX8_run, .instanceMethod yX8_run, .selects RX8 yX8_run yX8_run, .classLink RL 13 "java/lang/IllegalArgumentException", .methodLink RL 15 yX8_pass, .instanceMethod yX8_pass, .selects RX8 yX8_pass yX8_pass, .methodLink RL 18 yX8_got, .instanceMethod yX8_got, .selects RX8 yX8_got yX8_got, .classLink RL 21 "java/util/NoSuchElementException", .methodLink RL 23 yX8_burn, .instanceMethod yX8_burn, .selects RX8 yX8_burn yX8_burn, .classLink RL 27 "java/lang/IndexOutOfBoundsException", .methodLink RL 29 yX8_word, .instanceMethod yX8_word, .selects RX8 yX8_word yX8_word, .methodLink RL 32 yX8_data, .instanceMethod yX8_data, .selects RX8 yX8_data yX8_data, .methodLink RL 35 yX8_put, .instanceMethod yX8_put, .selects RX8 yX8_put yX8_put]
set_option maxRecDepth 100000 in
theorem lB_wH0_0 : ∀ w ∈ wH0_0, w ∈ lw_tbl :=
  List.forall_mem_cons.mpr ⟨tIn5 (List.mem_of_getElem? (i := 123) (by decide +kernel)), List.forall_mem_cons.mpr ⟨tIn5 (List.mem_of_getElem? (i := 124) (by decide +kernel)), List.forall_mem_cons.mpr ⟨tIn5 (List.mem_of_getElem? (i := 125) (by decide +kernel)), List.forall_mem_cons.mpr ⟨tIn5 (List.mem_of_getElem? (i := 122) (by decide +kernel)), List.forall_mem_cons.mpr ⟨tIn5 (List.mem_of_getElem? (i := 133) (by decide +kernel)), List.forall_mem_cons.mpr ⟨tIn5 (List.mem_of_getElem? (i := 134) (by decide +kernel)), List.forall_mem_cons.mpr ⟨tIn5 (List.mem_of_getElem? (i := 135) (by decide +kernel)), List.forall_mem_cons.mpr ⟨tIn5 (List.mem_of_getElem? (i := 143) (by decide +kernel)), List.forall_mem_cons.mpr ⟨tIn5 (List.mem_of_getElem? (i := 144) (by decide +kernel)), List.forall_mem_cons.mpr ⟨tIn5 (List.mem_of_getElem? (i := 145) (by decide +kernel)), List.forall_mem_cons.mpr ⟨tIn5 (List.mem_of_getElem? (i := 142) (by decide +kernel)), List.forall_mem_cons.mpr ⟨tIn5 (List.mem_of_getElem? (i := 167) (by decide +kernel)), List.forall_mem_cons.mpr ⟨tIn5 (List.mem_of_getElem? (i := 168) (by decide +kernel)), List.forall_mem_cons.mpr ⟨tIn5 (List.mem_of_getElem? (i := 169) (by decide +kernel)), List.forall_mem_cons.mpr ⟨tIn5 (List.mem_of_getElem? (i := 166) (by decide +kernel)), List.forall_mem_cons.mpr ⟨tIn5 (List.mem_of_getElem? (i := 194) (by decide +kernel)), List.forall_mem_cons.mpr ⟨tIn5 (List.mem_of_getElem? (i := 195) (by decide +kernel)), List.forall_mem_cons.mpr ⟨tIn5 (List.mem_of_getElem? (i := 196) (by decide +kernel)), List.forall_mem_cons.mpr ⟨tIn5 (List.mem_of_getElem? (i := 201) (by decide +kernel)), List.forall_mem_cons.mpr ⟨tIn5 (List.mem_of_getElem? (i := 202) (by decide +kernel)), List.forall_mem_cons.mpr ⟨tIn5 (List.mem_of_getElem? (i := 203) (by decide +kernel)), List.forall_mem_cons.mpr ⟨tIn5 (List.mem_of_getElem? (i := 214) (by decide +kernel)), List.forall_mem_cons.mpr ⟨tIn5 (List.mem_of_getElem? (i := 215) (by decide +kernel)), List.forall_mem_cons.mpr ⟨tIn5 (List.mem_of_getElem? (i := 216) (by decide +kernel)), fun _ h => absurd h List.not_mem_nil⟩⟩⟩⟩⟩⟩⟩⟩⟩⟩⟩⟩⟩⟩⟩⟩⟩⟩⟩⟩⟩⟩⟩⟩
def wH0_1 : List Jvm.Cond := [.methodLink RL 39 yX8_eeprom, .instanceMethod yX8_eeprom, .selects RX8 yX8_eeprom yX8_eeprom, .methodLink RL 42 yX8_start, .instanceMethod yX8_start, .selects RX8 yX8_start yX8_start, .methodLink RL 46 yX8_about, .instanceMethod yX8_about, .selects RX8 yX8_about yX8_about]
set_option maxRecDepth 100000 in
theorem lB_wH0_1 : ∀ w ∈ wH0_1, w ∈ lw_tbl :=
  List.forall_mem_cons.mpr ⟨tIn5 (List.mem_of_getElem? (i := 225) (by decide +kernel)), List.forall_mem_cons.mpr ⟨tIn5 (List.mem_of_getElem? (i := 226) (by decide +kernel)), List.forall_mem_cons.mpr ⟨tIn5 (List.mem_of_getElem? (i := 227) (by decide +kernel)), List.forall_mem_cons.mpr ⟨tIn5 (List.mem_of_getElem? (i := 233) (by decide +kernel)), List.forall_mem_cons.mpr ⟨tIn5 (List.mem_of_getElem? (i := 234) (by decide +kernel)), List.forall_mem_cons.mpr ⟨tIn5 (List.mem_of_getElem? (i := 235) (by decide +kernel)), List.forall_mem_cons.mpr ⟨tIn6 (List.mem_of_getElem? (i := 0) (by decide +kernel)), List.forall_mem_cons.mpr ⟨tIn6 (List.mem_of_getElem? (i := 1) (by decide +kernel)), List.forall_mem_cons.mpr ⟨tIn6 (List.mem_of_getElem? (i := 2) (by decide +kernel)), fun _ h => absurd h List.not_mem_nil⟩⟩⟩⟩⟩⟩⟩⟩⟩
set_option maxRecDepth 100000 in
theorem lE_wH0 : wH0 = wH0_0 ++ (wH0_1) := rfl
theorem lA_H0 : ∀ w ∈ wH0, w ∈ lw_tbl := by
  rw [lE_wH0]
  exact List.forall_mem_append.mpr ⟨lB_wH0_0, lB_wH0_1⟩
def wN0_0 : List Jvm.Cond := [.code yX8_init cX8_init 1 none, .methodLink RX8 1 objectInit, .instanceMethod objectInit, .code objectInit ⟨#[0xb1]⟩ 1 none, .classLink RX8 7 RX5, .instantiable RX5 9, .classLink RX8 16 RX1, .instantiable RX1 8, .methodLink RX8 9 yX5_init, .instanceMethod yX5_init, .code yX5_init cX5_init 1 none, .methodLink RX5 3 objectInit, .arrayClass .int, .classLink RX5 15 RX3, .instantiable RX3 8, .classLink RX5 24 RX6, .instantiable RX6 2, .classLink RX5 31 RX4, .instantiable RX4 15, .classLink RX5 38 RX2, .instantiable RX2 4, .classLink RX5 45 RX7, .instantiable RX7 3, .methodLink RX5 17 yX3_init]
set_option maxRecDepth 100000 in
theorem lB_wN0_0 : ∀ w ∈ wN0_0, w ∈ lw_tbl :=
  List.forall_mem_cons.mpr ⟨tIn1 (List.mem_of_getElem? (i := 33) (by decide +kernel)), List.forall_mem_cons.mpr ⟨tIn1 (List.mem_of_getElem? (i := 34) (by decide +kernel)), List.forall_mem_cons.mpr ⟨tIn1 (List.mem_of_getElem? (i := 35) (by decide +kernel)), List.forall_mem_cons.mpr ⟨tIn1 (List.mem_of_getElem? (i := 36) (by decide +kernel)), List.forall_mem_cons.mpr ⟨tIn1 (List.mem_of_getElem? (i := 37) (by decide +kernel)), List.forall_mem_cons.mpr ⟨tIn1 (List.mem_of_getElem? (i := 38) (by decide +kernel)), List.forall_mem_cons.mpr ⟨tIn2 (List.mem_of_getElem? (i := 6) (by decide +kernel)), List.forall_mem_cons.mpr ⟨tIn2 (List.mem_of_getElem? (i := 7) (by decide +kernel)), List.forall_mem_cons.mpr ⟨tIn1 (List.mem_of_getElem? (i := 39) (by decide +kernel)), List.forall_mem_cons.mpr ⟨tIn1 (List.mem_of_getElem? (i := 40) (by decide +kernel)), List.forall_mem_cons.mpr ⟨tIn1 (List.mem_of_getElem? (i := 41) (by decide +kernel)), List.forall_mem_cons.mpr ⟨tIn1 (List.mem_of_getElem? (i := 42) (by decide +kernel)), List.forall_mem_cons.mpr ⟨tIn1 (List.mem_of_getElem? (i := 89) (by decide +kernel)), List.forall_mem_cons.mpr ⟨tIn1 (List.mem_of_getElem? (i := 43) (by decide +kernel)), List.forall_mem_cons.mpr ⟨tIn1 (List.mem_of_getElem? (i := 44) (by decide +kernel)), List.forall_mem_cons.mpr ⟨tIn1 (List.mem_of_getElem? (i := 90) (by decide +kernel)), List.forall_mem_cons.mpr ⟨tIn1 (List.mem_of_getElem? (i := 91) (by decide +kernel)), List.forall_mem_cons.mpr ⟨tIn1 (List.mem_of_getElem? (i := 105) (by decide +kernel)), List.forall_mem_cons.mpr ⟨tIn1 (List.mem_of_getElem? (i := 106) (by decide +kernel)), List.forall_mem_cons.mpr ⟨tIn1 (List.mem_of_getElem? (i := 163) (by decide +kernel)), List.forall_mem_cons.mpr ⟨tIn1 (List.mem_of_getElem? (i := 164) (by decide +kernel)), List.forall_mem_cons.mpr ⟨tIn1 (List.mem_of_getElem? (i := 186) (by decide +kernel)), List.forall_mem_cons.mpr ⟨tIn1 (List.mem_of_getElem? (i := 187) (by decide +kernel)), List.forall_mem_cons.mpr ⟨tIn1 (List.mem_of_getElem? (i := 45) (by decide +kernel)), fun _ h => absurd h List.not_mem_nil⟩⟩⟩⟩⟩⟩⟩⟩⟩⟩⟩⟩⟩⟩⟩⟩⟩⟩⟩⟩⟩⟩⟩⟩
