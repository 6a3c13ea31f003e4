/-! calls on fresh objects -/
theorem eAll_ap {n m : Nat} {p : Nat → Bool} (h1 : ∀ a, a < n → p a = true) (h2 : ((List.range m).all fun k => p (n + k)) = true) : ∀ a, a < n + m → p a = true := fun a ha => by
  rcases Nat.lt_or_ge a n with h | h
  · exact h1 a h
  · have := List.all_eq_true.mp h2 (a - n) (List.mem_range.mpr (by omega))
    rwa [show n + (a - n) = a by omega] at this
def tC_step : eSt := ([[(2, 0), (2, 0), (1, 1), (1, 1), (1, 1), (1, 0), (1, 0)], [(2, 0), (2, 0), (2, 0), (2, 0), (2, 0), (2, 0), (1, 0), (1, 0), (1, 0)], [(2, 0), (2, 0), (2, 0), (2, 0), (1, 1537), (1, 0), (1, 0), (1, 1536)], [(2, 0), (2, 0), (2, 0), (1, 0), (1, 15), (1, 1), (1, 0), (1, 0)], [(2, 0), (1, 1)], [(2, 0), (2, 0), (1, 0), (1, 0), (2, 0), (1, 0), (1, 0), (1, 0), (1, 0), (1, 0), (1, 0), (1, 0), (1, 0), (1, 0), (1, 0)], [(2, 0), (2, 0), (1, 0), (1, 0)], [(2, 0), (1, 0), (1, 0)], [(2, 0)], [], [], [], [], [], []],
  [[], [], [], [], [], [], [], [], [], [(16, (1, 4)), (192, (1, 32)), (84, (1, 1))], [], [], [], [], []])
set_option maxRecDepth 1000000 in
theorem rC_step : eEv e0 e0 shC dfC pgC 1400 14 112 [(0, 0)] s0C = some (some (1, 1), tC_step) := eEqB_ok (by decide +kernel)
def tC_host : eSt := ([[(2, 0), (2, 0), (1, 1), (1, 0), (1, 0), (1, 0), (1, 0)], [(2, 0), (2, 0), (2, 0), (2, 0), (2, 0), (2, 0), (1, 0), (1, 0), (1, 0)], [(2, 0), (2, 0), (2, 0), (2, 0), (1, 1536), (1, 0), (1, 0), (1, 0)], [(2, 0), (2, 0), (2, 0), (1, 0), (1, 15), (1, 1), (1, 0), (1, 0)], [(2, 0), (1, 0)], [(2, 0), (2, 0), (1, 0), (1, 1), (2, 0), (1, 0), (1, 0), (1, 0), (1, 0), (1, 0), (1, 0), (1, 0), (1, 0), (1, 0), (1, 0)], [(2, 0), (2, 0), (1, 0), (1, 0)], [(2, 0), (1, 0), (1, 0)], [(2, 0)], [], [], [], [], [], []],
  [[], [], [], [], [], [], [], [], [], [(192, (1, 32)), (84, (1, 1))], [], [], [(0, (2, 0))], [], []])
set_option maxRecDepth 1000000 in
theorem rC_host : eEv e0 e0 shC dfC pgC 1400 14 103 [(0, 0), (2, 0)] s0C = some (some (1, 1), tC_host) := eEqB_ok (by decide +kernel)
def tC_sent : eSt := ([[(2, 0), (2, 0), (1, 1), (1, 0), (1, 0), (1, 0), (1, 0)], [(2, 0), (2, 0), (2, 0), (2, 0), (2, 0), (2, 0), (1, 0), (1, 0), (1, 0)], [(2, 0), (2, 0), (2, 0), (2, 0), (1, 1536), (1, 0), (1, 0), (1, 0)], [(2, 0), (2, 0), (2, 0), (1, 0), (1, 15), (1, 1), (1, 0), (1, 0)], [(2, 0), (1, 0)], [(2, 0), (2, 0), (1, 0), (1, 0), (2, 0), (1, 0), (1, 0), (1, 0), (1, 0), (1, 0), (1, 0), (1, 0), (1, 0), (1, 0), (1, 0)], [(2, 0), (2, 0), (1, 0), (1, 0)], [(2, 0), (1, 0), (1, 0)], [(2, 0)], [], [], [], [], [], []],
  [[], [], [], [], [], [], [], [], [], [(192, (1, 32)), (84, (1, 1))], [], [], [], [], []])
set_option maxRecDepth 1000000 in
theorem rC_sent : eEv e0 e0 shC dfC pgC 1400 14 111 [(0, 0)] s0C = some (some (1, 0), tC_sent) := eEqB_ok (by decide +kernel)
def tC_pins : eSt := ([[(2, 0), (2, 0), (1, 1), (1, 0), (1, 0), (1, 0), (1, 0)], [(2, 0), (2, 0), (2, 0), (2, 0), (2, 0), (2, 0), (2, 0), (1, 0), (1, 0)], [(2, 0), (2, 0), (2, 0), (2, 0), (1, 1536), (1, 0), (1, 0), (1, 0)], [(2, 0), (2, 0), (2, 0), (1, 0), (1, 15), (1, 1), (1, 0), (1, 0)], [(2, 0), (1, 0)], [(2, 0), (2, 0), (1, 0), (1, 0), (2, 0), (1, 0), (1, 0), (1, 0), (1, 0), (1, 0), (1, 0), (1, 0), (1, 0), (1, 0), (1, 0)], [(2, 0), (2, 0), (1, 0), (1, 0)], [(2, 0), (1, 0), (1, 0)], [(2, 0)], [], [], [], [], [], []],
  [[], [], [], [], [], [], [], [], [], [(192, (1, 32)), (84, (1, 1))], [], [], [], [], []])
set_option maxRecDepth 1000000 in
theorem rC_pins : eEv e0 e0 shC dfC pgC 1400 14 107 [(0, 0), (2, 0)] s0C = some (some (1, 0), tC_pins) := eEqB_ok (by decide +kernel)
def tC_fuses : eSt := ([[(2, 0), (2, 0), (1, 1), (1, 0), (1, 0), (1, 0), (1, 0)], [(2, 0), (2, 0), (2, 0), (2, 0), (2, 0), (2, 0), (1, 0), (1, 0), (1, 0)], [(2, 0), (2, 0), (2, 0), (2, 0), (1, 1536), (1, 0), (1, 0), (1, 0)], [(2, 0), (2, 0), (2, 0), (1, 0), (2, 0), (2, 0), (1, 0), (1, 0)], [(2, 0), (1, 0)], [(2, 0), (2, 0), (1, 0), (1, 0), (2, 0), (1, 0), (1, 0), (1, 0), (1, 0), (1, 0), (1, 0), (1, 0), (1, 0), (1, 0), (1, 0)], [(2, 0), (2, 0), (1, 0), (1, 0)], [(2, 0), (1, 0), (1, 0)], [(2, 0)], [], [], [], [], [], []],
  [[], [], [], [], [], [], [], [], [], [(192, (1, 32)), (84, (1, 1))], [], [], [], [], []])
set_option maxRecDepth 1000000 in
theorem rC_fuses : eEv e0 e0 shC dfC pgC 1400 14 102 [(0, 0), (2, 0)] s0C = some (some (1, 31), tC_fuses) := eEqB_ok (by decide +kernel)
def tC_reset : eSt := ([[(2, 0), (2, 0), (1, 1), (1, 0), (1, 0), (1, 0), (1, 0)], [(2, 0), (2, 0), (2, 0), (2, 0), (2, 0), (2, 0), (1, 0), (1, 0), (1, 0)], [(2, 0), (2, 0), (2, 0), (2, 0), (1, 1536), (1, 0), (1, 0), (1, 0)], [(2, 0), (2, 0), (2, 0), (1, 0), (1, 15), (1, 1), (1, 0), (1, 0)], [(2, 0), (1, 0)], [(2, 0), (2, 0), (1, 0), (1, 0), (2, 0), (1, 0), (1, 0), (1, 0), (1, 0), (1, 0), (1, 0), (1, 0), (1, 0), (1, 0), (1, 0)], [(2, 0), (2, 0), (1, 0), (1, 0)], [(2, 0), (1, 0), (1, 0)], [(2, 0)], [], [], [], [], [], []],
  [[], [], [], [], [], [], [], [], [], [(192, (1, 32)), (84, (1, 3))], [], [], [], [], []])
set_option maxRecDepth 1000000 in
theorem rC_reset : eEv e0 e0 shC dfC pgC 1400 14 109 [(0, 0)] s0C = some (none, tC_reset) := eEqB_ok (by decide +kernel)
def tC_power0 : eSt := ([[(2, 0), (2, 0), (1, 0), (1, 0), (1, 0), (1, 0), (1, 0)], [(2, 0), (2, 0), (2, 0), (2, 0), (2, 0), (2, 0), (1, 0), (1, 0), (1, 0)], [(2, 0), (2, 0), (2, 0), (2, 0), (1, 1536), (1, 0), (1, 0), (1, 0)], [(2, 0), (2, 0), (2, 0), (1, 0), (1, 15), (1, 1), (1, 0), (1, 0)], [(2, 0), (1, 0)], [(2, 0), (2, 0), (1, 0), (1, 0), (2, 0), (1, 0), (1, 0), (1, 0), (1, 0), (1, 0), (1, 0), (1, 0), (1, 0), (1, 0), (1, 0)], [(2, 0), (2, 0), (1, 0), (1, 0)], [(2, 0), (1, 0), (1, 0)], [(2, 0)], [], [], [], [], [], []],
  [[], [], [], [], [], [], [], [], [], [(192, (1, 32)), (84, (1, 1))], [], [], [], [], []])
set_option maxRecDepth 1000000 in
theorem rC_power0 : eEv e0 e0 shC dfC pgC 1400 14 108 [(0, 0), (1, 0)] s0C = some (some (1, 1), tC_power0) := eEqB_ok (by decide +kernel)
def tC_power1 : eSt := ([[(2, 0), (2, 0), (1, 1), (1, 0), (1, 0), (1, 0), (1, 0)], [(2, 0), (2, 0), (2, 0), (2, 0), (2, 0), (2, 0), (1, 0), (1, 0), (1, 0)], [(2, 0), (2, 0), (2, 0), (2, 0), (1, 1536), (1, 0), (1, 0), (1, 0)], [(2, 0), (2, 0), (2, 0), (1, 0), (1, 15), (1, 1), (1, 0), (1, 0)], [(2, 0), (1, 0)], [(2, 0), (2, 0), (1, 0), (1, 0), (2, 0), (1, 0), (1, 0), (1, 0), (1, 0), (1, 0), (1, 0), (1, 0), (1, 0), (1, 0), (1, 0)], [(2, 0), (2, 0), (1, 0), (1, 0)], [(2, 0), (1, 0), (1, 0)], [(2, 0)], [], [], [], [], [], []],
  [[], [], [], [], [], [], [], [], [], [(192, (1, 32)), (84, (1, 1))], [], [], [], [], []])
set_option maxRecDepth 1000000 in
theorem rC_power1 : eEv e0 e0 shC dfC pgC 1400 14 108 [(0, 0), (1, 1)] s0C = some (some (1, 1), tC_power1) := eEqB_ok (by decide +kernel)
def qC_word (a : Nat) : Bool := eEqB (eEv e0 e0 shC dfC pgC 1400 14 113 [(0, 0), (1, a)] s0C) (some (some (1, eN (gWords a)), s0C))
set_option maxRecDepth 1000000 in
theorem qC_word_0 : ((List.range 128).all fun k => qC_word (0 + k)) = true := by decide +kernel
set_option maxRecDepth 1000000 in
theorem qC_word_1 : ((List.range 128).all fun k => qC_word (128 + k)) = true := by decide +kernel
set_option maxRecDepth 1000000 in
theorem qC_word_2 : ((List.range 128).all fun k => qC_word (256 + k)) = true := by decide +kernel
set_option maxRecDepth 1000000 in
theorem qC_word_3 : ((List.range 128).all fun k => qC_word (384 + k)) = true := by decide +kernel
set_option maxRecDepth 1000000 in
theorem qC_word_4 : ((List.range 128).all fun k => qC_word (512 + k)) = true := by decide +kernel
set_option maxRecDepth 1000000 in
theorem qC_word_5 : ((List.range 128).all fun k => qC_word (640 + k)) = true := by decide +kernel
set_option maxRecDepth 1000000 in
theorem qC_word_6 : ((List.range 128).all fun k => qC_word (768 + k)) = true := by decide +kernel
set_option maxRecDepth 1000000 in
theorem qC_word_7 : ((List.range 128).all fun k => qC_word (896 + k)) = true := by decide +kernel
set_option maxRecDepth 1000000 in
theorem qC_word_8 : ((List.range 128).all fun k => qC_word (1024 + k)) = true := by decide +kernel
set_option maxRecDepth 1000000 in
theorem qC_word_9 : ((List.range 128).all fun k => qC_word (1152 + k)) = true := by decide +kernel
set_option maxRecDepth 1000000 in
theorem qC_word_10 : ((List.range 128).all fun k => qC_word (1280 + k)) = true := by decide +kernel
set_option maxRecDepth 1000000 in
theorem qC_word_11 : ((List.range 128).all fun k => qC_word (1408 + k)) = true := by decide +kernel
set_option maxRecDepth 1000000 in
theorem qC_word_12 : ((List.range 128).all fun k => qC_word (1536 + k)) = true := by decide +kernel
set_option maxRecDepth 1000000 in
theorem qC_word_13 : ((List.range 128).all fun k => qC_word (1664 + k)) = true := by decide +kernel
set_option maxRecDepth 1000000 in
theorem qC_word_14 : ((List.range 128).all fun k => qC_word (1792 + k)) = true := by decide +kernel
set_option maxRecDepth 1000000 in
theorem qC_word_15 : ((List.range 128).all fun k => qC_word (1920 + k)) = true := by decide +kernel
theorem rC_word : ∀ a, a < 2048 → eEv e0 e0 shC dfC pgC 1400 14 113 [(0, 0), (1, a)] s0C = some (some (1, eN (gWords a)), s0C) := fun a ha => eEqB_ok (show qC_word a = true from (eAll_ap (n := 1920) (m := 128) (eAll_ap (n := 1792) (m := 128) (eAll_ap (n := 1664) (m := 128) (eAll_ap (n := 1536) (m := 128) (eAll_ap (n := 1408) (m := 128) (eAll_ap (n := 1280) (m := 128) (eAll_ap (n := 1152) (m := 128) (eAll_ap (n := 1024) (m := 128) (eAll_ap (n := 896) (m := 128) (eAll_ap (n := 768) (m := 128) (eAll_ap (n := 640) (m := 128) (eAll_ap (n := 512) (m := 128) (eAll_ap (n := 384) (m := 128) (eAll_ap (n := 256) (m := 128) (eAll_ap (n := 128) (m := 128) (eAll_ap (n := 0) (m := 128) (fun a ha => absurd ha (Nat.not_lt_zero a)) qC_word_0) qC_word_1) qC_word_2) qC_word_3) qC_word_4) qC_word_5) qC_word_6) qC_word_7) qC_word_8) qC_word_9) qC_word_10) qC_word_11) qC_word_12) qC_word_13) qC_word_14) qC_word_15) a ha)
def datN (a : Nat) : Nat := if a = 84 then 1 else if a = 192 then 32 else 0
def qC_data (a : Nat) : Bool := eEqB (eEv e0 e0 shC dfC pgC 1400 14 100 [(0, 0), (1, a)] s0C) (some (some (1, datN a), s0C))
set_option maxRecDepth 1000000 in
theorem qC_data_0 : ((List.range 128).all fun k => qC_data (0 + k)) = true := by decide +kernel
set_option maxRecDepth 1000000 in
theorem qC_data_1 : ((List.range 128).all fun k => qC_data (128 + k)) = true := by decide +kernel
set_option maxRecDepth 1000000 in
theorem qC_data_2 : ((List.range 128).all fun k => qC_data (256 + k)) = true := by decide +kernel
set_option maxRecDepth 1000000 in
theorem qC_data_3 : ((List.range 128).all fun k => qC_data (384 + k)) = true := by decide +kernel
set_option maxRecDepth 1000000 in
theorem qC_data_4 : ((List.range 128).all fun k => qC_data (512 + k)) = true := by decide +kernel
set_option maxRecDepth 1000000 in
theorem qC_data_5 : ((List.range 128).all fun k => qC_data (640 + k)) = true := by decide +kernel
set_option maxRecDepth 1000000 in
theorem qC_data_6 : ((List.range 128).all fun k => qC_data (768 + k)) = true := by decide +kernel
set_option maxRecDepth 1000000 in
theorem qC_data_7 : ((List.range 128).all fun k => qC_data (896 + k)) = true := by decide +kernel
set_option maxRecDepth 1000000 in
theorem qC_data_8 : ((List.range 128).all fun k => qC_data (1024 + k)) = true := by decide +kernel
set_option maxRecDepth 1000000 in
theorem qC_data_9 : ((List.range 128).all fun k => qC_data (1152 + k)) = true := by decide +kernel
theorem rC_data : ∀ a, a < 1280 → eEv e0 e0 shC dfC pgC 1400 14 100 [(0, 0), (1, a)] s0C = some (some (1, datN a), s0C) := fun a ha => eEqB_ok (show qC_data a = true from (eAll_ap (n := 1152) (m := 128) (eAll_ap (n := 1024) (m := 128) (eAll_ap (n := 896) (m := 128) (eAll_ap (n := 768) (m := 128) (eAll_ap (n := 640) (m := 128) (eAll_ap (n := 512) (m := 128) (eAll_ap (n := 384) (m := 128) (eAll_ap (n := 256) (m := 128) (eAll_ap (n := 128) (m := 128) (eAll_ap (n := 0) (m := 128) (fun a ha => absurd ha (Nat.not_lt_zero a)) qC_data_0) qC_data_1) qC_data_2) qC_data_3) qC_data_4) qC_data_5) qC_data_6) qC_data_7) qC_data_8) qC_data_9) a ha)
def qC_eeprom (a : Nat) : Bool := eEqB (eEv e0 e0 shC dfC pgC 1400 14 101 [(0, 0), (1, a)] s0C) (some (some (1, 255), s0C))
set_option maxRecDepth 1000000 in
theorem qC_eeprom_0 : ((List.range 128).all fun k => qC_eeprom (0 + k)) = true := by decide +kernel
set_option maxRecDepth 1000000 in
theorem qC_eeprom_1 : ((List.range 128).all fun k => qC_eeprom (128 + k)) = true := by decide +kernel
theorem rC_eeprom : ∀ a, a < 256 → eEv e0 e0 shC dfC pgC 1400 14 101 [(0, 0), (1, a)] s0C = some (some (1, 255), s0C) := fun a ha => eEqB_ok (show qC_eeprom a = true from (eAll_ap (n := 128) (m := 128) (eAll_ap (n := 0) (m := 128) (fun a ha => absurd ha (Nat.not_lt_zero a)) qC_eeprom_0) qC_eeprom_1) a ha)
def aboN (a : Nat) : Nat := if a = 0 then 1536 else if a = 20 then 1 else 0
def qC_about (a : Nat) : Bool := eEqB (eEv e0 e0 shC dfC pgC 1400 14 99 [(0, 0), (1, a)] s0C) (some (some (1, aboN a), s0C))
set_option maxRecDepth 1000000 in
theorem qC_about_0 : ((List.range 22).all fun k => qC_about (0 + k)) = true := by decide +kernel
theorem rC_about : ∀ a, a < 22 → eEv e0 e0 shC dfC pgC 1400 14 99 [(0, 0), (1, a)] s0C = some (some (1, aboN a), s0C) := fun a ha => eEqB_ok (show qC_about a = true from (eAll_ap (n := 0) (m := 22) (fun a ha => absurd ha (Nat.not_lt_zero a)) qC_about_0) a ha)
