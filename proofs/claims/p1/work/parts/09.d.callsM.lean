def tM_step : eSt := ([[(1, 0), (2, 0), (2, 0), (2, 0), (2, 0), (2, 0), (1, 15), (1, 1), (1, 0), (1, 1), (1, 0), (1, 0), (1, 1537), (1, 1), (1, 1), (1, 0), (1, 0), (1, 0), (1, 1), (1, 0), (1, 0), (1, 0), (1, 0), (1, 0), (1, 0), (1, 4294967295), (1, 0), (1, 0), (1, 0), (1, 0), (1, 0), (1, 0), (1, 0), (2, 0), (2, 0), (1, 0), (1, 0), (1, 0), (1, 1536)], [], [], [], [], [], [], []],
  [[], [], [], [(16, (1, 4)), (84, (1, 1)), (192, (1, 32))], [], [], [], []])
set_option maxRecDepth 1000000 in
theorem rM_step : eEv e0 e0 shM dfM pgM 1400 14 60 [(0, 0)] s0M = some (some (1, 1), tM_step) := eEqB_ok (by decide +kernel)
def tM_host : eSt := ([[(1, 0), (2, 0), (2, 0), (2, 0), (2, 0), (2, 0), (1, 15), (1, 1), (1, 0), (1, 1), (1, 0), (1, 0), (1, 1536), (1, 0), (1, 0), (1, 0), (1, 0), (1, 0), (1, 0), (1, 0), (1, 0), (1, 0), (1, 0), (1, 0), (1, 0), (1, 4294967295), (1, 0), (1, 0), (1, 0), (1, 0), (1, 0), (1, 0), (1, 0), (2, 0), (2, 0), (1, 1), (1, 0), (1, 0), (1, 0)], [], [], [], [], [], [], []],
  [[], [], [], [(84, (1, 1)), (192, (1, 32))], [], [], [(0, (2, 0))], []])
set_option maxRecDepth 1000000 in
theorem rM_host : eEv e0 e0 shM dfM pgM 1400 14 19 [(0, 0), (2, 0)] s0M = some (some (1, 1), tM_host) := eEqB_ok (by decide +kernel)
def tM_sent : eSt := ([[(1, 0), (2, 0), (2, 0), (2, 0), (2, 0), (2, 0), (1, 15), (1, 1), (1, 0), (1, 1), (1, 0), (1, 0), (1, 1536), (1, 0), (1, 0), (1, 0), (1, 0), (1, 0), (1, 0), (1, 0), (1, 0), (1, 0), (1, 0), (1, 0), (1, 0), (1, 4294967295), (1, 0), (1, 0), (1, 0), (1, 0), (1, 0), (1, 0), (1, 0), (2, 0), (2, 0), (1, 0), (1, 0), (1, 0), (1, 0)], [], [], [], [], [], [], []],
  [[], [], [], [(84, (1, 1)), (192, (1, 32))], [], [], [], []])
set_option maxRecDepth 1000000 in
theorem rM_sent : eEv e0 e0 shM dfM pgM 1400 14 52 [(0, 0)] s0M = some (some (1, 0), tM_sent) := eEqB_ok (by decide +kernel)
def tM_pins : eSt := ([[(1, 0), (2, 0), (2, 0), (2, 0), (2, 0), (2, 0), (1, 15), (1, 1), (2, 0), (1, 1), (1, 0), (1, 0), (1, 1536), (1, 0), (1, 0), (1, 0), (1, 0), (1, 0), (1, 0), (1, 0), (1, 0), (1, 0), (1, 0), (1, 0), (1, 0), (1, 4294967295), (1, 0), (1, 0), (1, 0), (1, 0), (1, 0), (1, 0), (1, 0), (2, 0), (2, 0), (1, 0), (1, 0), (1, 0), (1, 0)], [], [], [], [], [], [], []],
  [[], [], [], [(84, (1, 1)), (192, (1, 32))], [], [], [], []])
set_option maxRecDepth 1000000 in
theorem rM_pins : eEv e0 e0 shM dfM pgM 1400 14 35 [(0, 0), (2, 0)] s0M = some (some (1, 0), tM_pins) := eEqB_ok (by decide +kernel)
def tM_fuses : eSt := ([[(1, 0), (2, 0), (2, 0), (2, 0), (2, 0), (2, 0), (2, 0), (2, 0), (1, 0), (1, 1), (1, 0), (1, 0), (1, 1536), (1, 0), (1, 0), (1, 0), (1, 0), (1, 0), (1, 0), (1, 0), (1, 0), (1, 0), (1, 0), (1, 0), (1, 0), (1, 4294967295), (1, 0), (1, 0), (1, 0), (1, 0), (1, 0), (1, 0), (1, 0), (2, 0), (2, 0), (1, 0), (1, 0), (1, 0), (1, 0)], [], [], [], [], [], [], []],
  [[], [], [], [(84, (1, 1)), (192, (1, 32))], [], [], [], []])
set_option maxRecDepth 1000000 in
theorem rM_fuses : eEv e0 e0 shM dfM pgM 1400 14 15 [(0, 0), (2, 0)] s0M = some (some (1, 31), tM_fuses) := eEqB_ok (by decide +kernel)
def tM_reset : eSt := ([[(1, 0), (2, 0), (2, 0), (2, 0), (2, 0), (2, 0), (1, 15), (1, 1), (1, 0), (1, 1), (1, 0), (1, 0), (1, 1536), (1, 0), (1, 0), (1, 0), (1, 0), (1, 0), (1, 0), (1, 0), (1, 0), (1, 0), (1, 0), (1, 0), (1, 0), (1, 4294967295), (1, 0), (1, 0), (1, 0), (1, 0), (1, 0), (1, 0), (1, 0), (2, 0), (2, 0), (1, 0), (1, 0), (1, 0), (1, 0)], [], [], [], [], [], [], []],
  [[], [], [], [(84, (1, 3)), (192, (1, 32))], [], [], [], []])
set_option maxRecDepth 1000000 in
theorem rM_reset : eEv e0 e0 shM dfM pgM 1400 14 47 [(0, 0)] s0M = some (none, tM_reset) := eEqB_ok (by decide +kernel)
def tM_power0 : eSt := ([[(1, 0), (2, 0), (2, 0), (2, 0), (2, 0), (2, 0), (1, 15), (1, 1), (1, 0), (1, 0), (1, 0), (1, 0), (1, 1536), (1, 0), (1, 0), (1, 0), (1, 0), (1, 0), (1, 0), (1, 0), (1, 0), (1, 0), (1, 0), (1, 0), (1, 0), (1, 4294967295), (1, 0), (1, 0), (1, 0), (1, 0), (1, 0), (1, 0), (1, 0), (2, 0), (2, 0), (1, 0), (1, 0), (1, 0), (1, 0)], [], [], [], [], [], [], []],
  [[], [], [], [(84, (1, 1)), (192, (1, 32))], [], [], [], []])
set_option maxRecDepth 1000000 in
theorem rM_power0 : eEv e0 e0 shM dfM pgM 1400 14 42 [(0, 0), (1, 0)] s0M = some (some (1, 1), tM_power0) := eEqB_ok (by decide +kernel)
def tM_power1 : eSt := ([[(1, 0), (2, 0), (2, 0), (2, 0), (2, 0), (2, 0), (1, 15), (1, 1), (1, 0), (1, 1), (1, 0), (1, 0), (1, 1536), (1, 0), (1, 0), (1, 0), (1, 0), (1, 0), (1, 0), (1, 0), (1, 0), (1, 0), (1, 0), (1, 0), (1, 0), (1, 4294967295), (1, 0), (1, 0), (1, 0), (1, 0), (1, 0), (1, 0), (1, 0), (2, 0), (2, 0), (1, 0), (1, 0), (1, 0), (1, 0)], [], [], [], [], [], [], []],
  [[], [], [], [(84, (1, 1)), (192, (1, 32))], [], [], [], []])
set_option maxRecDepth 1000000 in
theorem rM_power1 : eEv e0 e0 shM dfM pgM 1400 14 42 [(0, 0), (1, 1)] s0M = some (some (1, 1), tM_power1) := eEqB_ok (by decide +kernel)
def qM_word (a : Nat) : Bool := eEqB (eEv e0 e0 shM dfM pgM 1400 14 73 [(0, 0), (1, a)] s0M) (some (some (1, eN (gWords a)), s0M))
set_option maxRecDepth 1000000 in
theorem qM_word_0 : ((List.range 128).all fun k => qM_word (0 + k)) = true := by decide +kernel
set_option maxRecDepth 1000000 in
theorem qM_word_1 : ((List.range 128).all fun k => qM_word (128 + k)) = true := by decide +kernel
set_option maxRecDepth 1000000 in
theorem qM_word_2 : ((List.range 128).all fun k => qM_word (256 + k)) = true := by decide +kernel
set_option maxRecDepth 1000000 in
theorem qM_word_3 : ((List.range 128).all fun k => qM_word (384 + k)) = true := by decide +kernel
set_option maxRecDepth 1000000 in
theorem qM_word_4 : ((List.range 128).all fun k => qM_word (512 + k)) = true := by decide +kernel
set_option maxRecDepth 1000000 in
theorem qM_word_5 : ((List.range 128).all fun k => qM_word (640 + k)) = true := by decide +kernel
set_option maxRecDepth 1000000 in
theorem qM_word_6 : ((List.range 128).all fun k => qM_word (768 + k)) = true := by decide +kernel
set_option maxRecDepth 1000000 in
theorem qM_word_7 : ((List.range 128).all fun k => qM_word (896 + k)) = true := by decide +kernel
set_option maxRecDepth 1000000 in
theorem qM_word_8 : ((List.range 128).all fun k => qM_word (1024 + k)) = true := by decide +kernel
set_option maxRecDepth 1000000 in
theorem qM_word_9 : ((List.range 128).all fun k => qM_word (1152 + k)) = true := by decide +kernel
set_option maxRecDepth 1000000 in
theorem qM_word_10 : ((List.range 128).all fun k => qM_word (1280 + k)) = true := by decide +kernel
set_option maxRecDepth 1000000 in
theorem qM_word_11 : ((List.range 128).all fun k => qM_word (1408 + k)) = true := by decide +kernel
set_option maxRecDepth 1000000 in
theorem qM_word_12 : ((List.range 128).all fun k => qM_word (1536 + k)) = true := by decide +kernel
set_option maxRecDepth 1000000 in
theorem qM_word_13 : ((List.range 128).all fun k => qM_word (1664 + k)) = true := by decide +kernel
set_option maxRecDepth 1000000 in
theorem qM_word_14 : ((List.range 128).all fun k => qM_word (1792 + k)) = true := by decide +kernel
set_option maxRecDepth 1000000 in
theorem qM_word_15 : ((List.range 128).all fun k => qM_word (1920 + k)) = true := by decide +kernel
theorem rM_word : ∀ a, a < 2048 → eEv e0 e0 shM dfM pgM 1400 14 73 [(0, 0), (1, a)] s0M = some (some (1, eN (gWords a)), s0M) := fun a ha => eEqB_ok (show qM_word a = true from (eAll_ap (n := 1920) (m := 128) (eAll_ap (n := 1792) (m := 128) (eAll_ap (n := 1664) (m := 128) (eAll_ap (n := 1536) (m := 128) (eAll_ap (n := 1408) (m := 128) (eAll_ap (n := 1280) (m := 128) (eAll_ap (n := 1152) (m := 128) (eAll_ap (n := 1024) (m := 128) (eAll_ap (n := 896) (m := 128) (eAll_ap (n := 768) (m := 128) (eAll_ap (n := 640) (m := 128) (eAll_ap (n := 512) (m := 128) (eAll_ap (n := 384) (m := 128) (eAll_ap (n := 256) (m := 128) (eAll_ap (n := 128) (m := 128) (eAll_ap (n := 0) (m := 128) (fun a ha => absurd ha (Nat.not_lt_zero a)) qM_word_0) qM_word_1) qM_word_2) qM_word_3) qM_word_4) qM_word_5) qM_word_6) qM_word_7) qM_word_8) qM_word_9) qM_word_10) qM_word_11) qM_word_12) qM_word_13) qM_word_14) qM_word_15) a ha)
def qM_data (a : Nat) : Bool := eEqB (eEv e0 e0 shM dfM pgM 1400 14 7 [(0, 0), (1, a)] s0M) (some (some (1, datN a), s0M))
set_option maxRecDepth 1000000 in
theorem qM_data_0 : ((List.range 128).all fun k => qM_data (0 + k)) = true := by decide +kernel
set_option maxRecDepth 1000000 in
theorem qM_data_1 : ((List.range 128).all fun k => qM_data (128 + k)) = true := by decide +kernel
set_option maxRecDepth 1000000 in
theorem qM_data_2 : ((List.range 128).all fun k => qM_data (256 + k)) = true := by decide +kernel
set_option maxRecDepth 1000000 in
theorem qM_data_3 : ((List.range 128).all fun k => qM_data (384 + k)) = true := by decide +kernel
set_option maxRecDepth 1000000 in
theorem qM_data_4 : ((List.range 128).all fun k => qM_data (512 + k)) = true := by decide +kernel
set_option maxRecDepth 1000000 in
theorem qM_data_5 : ((List.range 128).all fun k => qM_data (640 + k)) = true := by decide +kernel
set_option maxRecDepth 1000000 in
theorem qM_data_6 : ((List.range 128).all fun k => qM_data (768 + k)) = true := by decide +kernel
set_option maxRecDepth 1000000 in
theorem qM_data_7 : ((List.range 128).all fun k => qM_data (896 + k)) = true := by decide +kernel
set_option maxRecDepth 1000000 in
theorem qM_data_8 : ((List.range 128).all fun k => qM_data (1024 + k)) = true := by decide +kernel
set_option maxRecDepth 1000000 in
theorem qM_data_9 : ((List.range 128).all fun k => qM_data (1152 + k)) = true := by decide +kernel
theorem rM_data : ∀ a, a < 1280 → eEv e0 e0 shM dfM pgM 1400 14 7 [(0, 0), (1, a)] s0M = some (some (1, datN a), s0M) := fun a ha => eEqB_ok (show qM_data a = true from (eAll_ap (n := 1152) (m := 128) (eAll_ap (n := 1024) (m := 128) (eAll_ap (n := 896) (m := 128) (eAll_ap (n := 768) (m := 128) (eAll_ap (n := 640) (m := 128) (eAll_ap (n := 512) (m := 128) (eAll_ap (n := 384) (m := 128) (eAll_ap (n := 256) (m := 128) (eAll_ap (n := 128) (m := 128) (eAll_ap (n := 0) (m := 128) (fun a ha => absurd ha (Nat.not_lt_zero a)) qM_data_0) qM_data_1) qM_data_2) qM_data_3) qM_data_4) qM_data_5) qM_data_6) qM_data_7) qM_data_8) qM_data_9) a ha)
def qM_eeprom (a : Nat) : Bool := eEqB (eEv e0 e0 shM dfM pgM 1400 14 10 [(0, 0), (1, a)] s0M) (some (some (1, 255), s0M))
set_option maxRecDepth 1000000 in
theorem qM_eeprom_0 : ((List.range 128).all fun k => qM_eeprom (0 + k)) = true := by decide +kernel
set_option maxRecDepth 1000000 in
theorem qM_eeprom_1 : ((List.range 128).all fun k => qM_eeprom (128 + k)) = true := by decide +kernel
theorem rM_eeprom : ∀ a, a < 256 → eEv e0 e0 shM dfM pgM 1400 14 10 [(0, 0), (1, a)] s0M = some (some (1, 255), s0M) := fun a ha => eEqB_ok (show qM_eeprom a = true from (eAll_ap (n := 128) (m := 128) (eAll_ap (n := 0) (m := 128) (fun a ha => absurd ha (Nat.not_lt_zero a)) qM_eeprom_0) qM_eeprom_1) a ha)
def qM_about (a : Nat) : Bool := eEqB (eEv e0 e0 shM dfM pgM 1400 14 0 [(0, 0), (1, a)] s0M) (some (some (1, aboN a), s0M))
set_option maxRecDepth 1000000 in
theorem qM_about_0 : ((List.range 22).all fun k => qM_about (0 + k)) = true := by decide +kernel
theorem rM_about : ∀ a, a < 22 → eEv e0 e0 shM dfM pgM 1400 14 0 [(0, 0), (1, a)] s0M = some (some (1, aboN a), s0M) := fun a ha => eEqB_ok (show qM_about a = true from (eAll_ap (n := 0) (m := 22) (fun a ha => absurd ha (Nat.not_lt_zero a)) qM_about_0) a ha)
def i31 : Int := 2147483647
def t1M : eSt := ([[(1, 1), (2, 0), (2, 0), (2, 0), (2, 0), (2, 0), (1, 15), (1, 1), (1, 0), (1, 1), (1, 0), (1, 0), (1, 1536), (1, 0), (1, 0), (1, 0), (1, 0), (1, 0), (1, 0), (1, 0), (1, 0), (1, 0), (1, 0), (1, 0), (1, 0), (1, 4294967295), (1, 0), (1, 0), (1, 0), (1, 0), (1, 0), (1, 0), (1, 0), (2, 0), (2, 0), (1, 0), (1, 0), (1, 0), (1, 0)], [], [], [], [], [], [], []],
  [[], [], [], [(84, (1, 1)), (192, (1, 32))], [], [], [], []])
set_option maxRecDepth 1000000 in
theorem rM_runL : eEv (fun _ => -2147483648) (fun _ => 0) shM dfM pgM 1400 14 50 [(0, 0), (3, 0)] s0M = some (some (1, 0), t1M) := eEqB_ok (by decide +kernel)
set_option maxRecDepth 1000000 in
theorem rM_runH : eEv (fun _ => 5001) (fun _ => 2147483647) shM dfM pgM 1400 14 50 [(0, 0), (3, 0)] s0M = some (some (1, 0), t1M) := eEqB_ok (by decide +kernel)
set_option maxRecDepth 1000000 in
theorem rM_passL : eEv (fun _ => -2147483648) (fun _ => 0) shM dfM pgM 1400 14 33 [(0, 0), (3, 0)] s0M = some (some (1, 0), t1M) := eEqB_ok (by decide +kernel)
set_option maxRecDepth 1000000 in
theorem rM_passH : eEv (fun _ => 200001) (fun _ => 2147483647) shM dfM pgM 1400 14 33 [(0, 0), (3, 0)] s0M = some (some (1, 0), t1M) := eEqB_ok (by decide +kernel)
set_option maxRecDepth 1000000 in
theorem rM_gotL : eEv (fun _ => -2147483648) (fun _ => -1) shM dfM pgM 1400 14 16 [(0, 0), (3, 0)] s0M = some (some (1, 0), t1M) := eEqB_ok (by decide +kernel)
set_option maxRecDepth 1000000 in
theorem rM_gotH : eEv (fun _ => 0) (fun _ => 2147483647) shM dfM pgM 1400 14 16 [(0, 0), (3, 0)] s0M = some (some (1, 0), t1M) := eEqB_ok (by decide +kernel)
set_option maxRecDepth 1000000 in
theorem rM_wordL : eEv (fun _ => -2147483648) (fun _ => -1) shM dfM pgM 1400 14 73 [(0, 0), (3, 0)] s0M = some (some (1, 0), t1M) := eEqB_ok (by decide +kernel)
set_option maxRecDepth 1000000 in
theorem rM_wordH : eEv (fun _ => 2048) (fun _ => 2147483647) shM dfM pgM 1400 14 73 [(0, 0), (3, 0)] s0M = some (some (1, 0), t1M) := eEqB_ok (by decide +kernel)
set_option maxRecDepth 1000000 in
theorem rM_dataL : eEv (fun _ => -2147483648) (fun _ => -1) shM dfM pgM 1400 14 7 [(0, 0), (3, 0)] s0M = some (some (1, 0), t1M) := eEqB_ok (by decide +kernel)
set_option maxRecDepth 1000000 in
theorem rM_dataH : eEv (fun _ => 1280) (fun _ => 2147483647) shM dfM pgM 1400 14 7 [(0, 0), (3, 0)] s0M = some (some (1, 0), t1M) := eEqB_ok (by decide +kernel)
set_option maxRecDepth 1000000 in
theorem rM_eepromL : eEv (fun _ => -2147483648) (fun _ => -1) shM dfM pgM 1400 14 10 [(0, 0), (3, 0)] s0M = some (some (1, 0), t1M) := eEqB_ok (by decide +kernel)
set_option maxRecDepth 1000000 in
theorem rM_eepromH : eEv (fun _ => 256) (fun _ => 2147483647) shM dfM pgM 1400 14 10 [(0, 0), (3, 0)] s0M = some (some (1, 0), t1M) := eEqB_ok (by decide +kernel)
set_option maxRecDepth 1000000 in
theorem rM_aboutL : eEv (fun _ => -2147483648) (fun _ => -1) shM dfM pgM 1400 14 0 [(0, 0), (3, 0)] s0M = some (some (1, 0), t1M) := eEqB_ok (by decide +kernel)
set_option maxRecDepth 1000000 in
theorem rM_aboutH : eEv (fun _ => 22) (fun _ => 2147483647) shM dfM pgM 1400 14 0 [(0, 0), (3, 0)] s0M = some (some (1, 0), t1M) := eEqB_ok (by decide +kernel)
