/-! the programs that the evaluator runs: shM -/
def spsM : Nat → mSp := fun k => ([spX9_about, spX9_add, spX9_awaited, spX9_bits, spX9_carry, spX9_clearBuffer, spX9_code, spX9_data, spX9_displaced, spX9_dog, spX9_eeprom, spX9_enter, spX9_flag, spX9_flashByte, spX9_frame, spX9_fuses, spX9_got, spX9_holdDog, spX9_holds, spX9_host, spX9_instruction, spX9_interrupt, spX9_line, spX9_load, spX9_loads, spX9_logic, spX9_moves, spX9_next, spX9_nines, spX9_ofNumber, spX9_ofTwo, spX9_others, spX9_pairs, spX9_pass, spX9_passes, spX9_pins, spX9_place, spX9_pointer, spX9_pop, spX9_popPlace, spX9_portBits, spX9_ports, spX9_power, spX9_product, spX9_push, spX9_pushPlace, spX9_relative, spX9_reset, spX9_restart, spX9_right, spX9_run, spX9_seen, spX9_sent, spX9_setFlag, spX9_setPointer, spX9_shifted, spX9_showReceived, spX9_signed, spX9_single, spX9_skips, spX9_step, spX9_stepped, spX9_store, spX9_storeDog, spX9_storeFlash, spX9_storeRom, spX9_storeVectors, spX9_stores, spX9_storesFlash, spX9_subtract, spX9_through, spX9_timer, spX9_windows, spX9_word, spX9_writes, spX9_zero] : List mSp).getD k (fun _ _ _ _ => False)
def ecX9_about : eCl := [(359, 0, 1, 12, 49), (231, 0, 1, 12, 37), (216, 0, 0, 12, 2)]
theorem eqX9_about : clX9_about = eMc spsM ecX9_about := rfl
def ecX9_add : eCl := [(250, 1, 1, 0, 57), (172, 0, 2, 12, 53), (253, 0, 1, 12, 75)]
theorem eqX9_add : clX9_add = eMc spsM ecX9_add := rfl
def ecX9_awaited : eCl := [(163, 0, 1, 12, 12), (166, 0, 0, 12, 21)]
theorem eqX9_awaited : clX9_awaited = eMc spsM ecX9_awaited := rfl
def ecX9_bits : eCl := [(163, 0, 1, 12, 12), (172, 0, 2, 12, 53), (299, 0, 0, 12, 59)]
theorem eqX9_bits : clX9_bits = eMc spsM ecX9_bits := rfl
def ecX9_carry : eCl := []
theorem eqX9_carry : clX9_carry = eMc spsM ecX9_carry := rfl
def ecX9_clearBuffer : eCl := []
theorem eqX9_clearBuffer : clX9_clearBuffer = eMc spsM ecX9_clearBuffer := rfl
def ecX9_code : eCl := []
theorem eqX9_code : clX9_code = eMc spsM ecX9_code := rfl
def ecX9_data : eCl := [(359, 0, 1, 12, 49), (134, 0, 1, 12, 51)]
theorem eqX9_data : clX9_data = eMc spsM ecX9_data := rfl
def ecX9_displaced : eCl := [(231, 0, 1, 12, 37), (234, 0, 2, 12, 62), (241, 0, 1, 12, 23)]
theorem eqX9_displaced : clX9_displaced = eMc spsM ecX9_displaced := rfl
def ecX9_dog : eCl := [(56, 0, 1, 12, 48)]
theorem eqX9_dog : clX9_dog = eMc spsM ecX9_dog := rfl
def ecX9_eeprom : eCl := [(359, 0, 1, 12, 49)]
theorem eqX9_eeprom : clX9_eeprom = eMc spsM ecX9_eeprom := rfl
def ecX9_enter : eCl := [(169, 0, 1, 12, 45), (172, 0, 2, 12, 53)]
theorem eqX9_enter : clX9_enter = eMc spsM ecX9_enter := rfl
def ecX9_flag : eCl := []
theorem eqX9_flag : clX9_flag = eMc spsM ecX9_flag := rfl
def ecX9_flashByte : eCl := [(228, 0, 1, 12, 6)]
theorem eqX9_flashByte : clX9_flashByte = eMc spsM ecX9_flashByte := rfl
def ecX9_frame : eCl := []
theorem eqX9_frame : clX9_frame = eMc spsM ecX9_frame := rfl
def ecX9_fuses : eCl := []
theorem eqX9_fuses : clX9_fuses = eMc spsM ecX9_fuses := rfl
def ecX9_got : eCl := [(359, 0, 1, 12, 49)]
theorem eqX9_got : clX9_got = eMc spsM ecX9_got := rfl
def ecX9_holdDog : eCl := []
theorem eqX9_holdDog : clX9_holdDog = eMc spsM ecX9_holdDog := rfl
def ecX9_holds : eCl := []
theorem eqX9_holds : clX9_holds = eMc spsM ecX9_holds := rfl
def ecX9_host : eCl := []
theorem eqX9_host : clX9_host = eMc spsM ecX9_host := rfl
def ecX9_instruction : eCl := [(259, 0, 0, 12, 27), (262, 0, 1, 12, 30), (265, 0, 1, 12, 29), (268, 0, 1, 12, 28), (273, 0, 1, 12, 8), (276, 0, 1, 12, 41), (279, 0, 1, 12, 3), (282, 0, 1, 12, 46)]
theorem eqX9_instruction : clX9_instruction = eMc spsM ecX9_instruction := rfl
def ecX9_interrupt : eCl := []
theorem eqX9_interrupt : clX9_interrupt = eMc spsM ecX9_interrupt := rfl
def ecX9_line : eCl := [(198, 0, 0, 12, 14), (141, 0, 0, 12, 56)]
theorem eqX9_line : clX9_line = eMc spsM ecX9_line := rfl
def ecX9_load : eCl := [(134, 0, 1, 12, 51), (141, 0, 0, 12, 56)]
theorem eqX9_load : clX9_load = eMc spsM ecX9_load := rfl
def ecX9_loads : eCl := [(231, 0, 1, 12, 37), (327, 0, 1, 12, 13), (238, 0, 2, 12, 54), (247, 0, 0, 12, 38), (330, 0, 1, 12, 36), (241, 0, 1, 12, 23)]
theorem eqX9_loads : clX9_loads = eMc spsM ecX9_loads := rfl
def ecX9_logic : eCl := [(172, 0, 2, 12, 53), (253, 0, 1, 12, 75)]
theorem eqX9_logic : clX9_logic = eMc spsM ecX9_logic := rfl
def ecX9_moves : eCl := [(250, 1, 1, 0, 57), (305, 0, 2, 12, 43)]
theorem eqX9_moves : clX9_moves = eMc spsM ecX9_moves := rfl
def ecX9_next : eCl := [(228, 0, 1, 12, 6)]
theorem eqX9_next : clX9_next = eMc spsM ecX9_next := rfl
def ecX9_nines : eCl := [(312, 0, 1, 12, 24), (315, 0, 1, 12, 67), (318, 0, 1, 12, 58), (321, 0, 1, 12, 32), (324, 0, 1, 12, 40), (305, 0, 2, 12, 43)]
theorem eqX9_nines : clX9_nines = eMc spsM ecX9_nines := rfl
def ecX9_ofNumber : eCl := [(291, 0, 4, 12, 69), (288, 0, 0, 12, 4), (302, 0, 1, 12, 25)]
theorem eqX9_ofNumber : clX9_ofNumber = eMc spsM ecX9_ofNumber := rfl
def ecX9_ofTwo : eCl := [(285, 0, 1, 12, 26), (288, 0, 0, 12, 4), (291, 0, 4, 12, 69), (295, 0, 3, 12, 1), (299, 0, 0, 12, 59), (302, 0, 1, 12, 25)]
theorem eqX9_ofTwo : clX9_ofTwo = eMc spsM ecX9_ofTwo := rfl
def ecX9_others : eCl := [(172, 0, 2, 12, 53), (346, 0, 0, 12, 39), (231, 0, 1, 12, 37), (327, 0, 1, 12, 13), (349, 0, 0, 12, 68)]
theorem eqX9_others : clX9_others = eMc spsM ecX9_others := rfl
def ecX9_pairs : eCl := [(231, 0, 1, 12, 37), (238, 0, 2, 12, 54), (172, 0, 2, 12, 53), (163, 0, 1, 12, 12)]
theorem eqX9_pairs : clX9_pairs = eMc spsM ecX9_pairs := rfl
def ecX9_pass : eCl := [(359, 0, 1, 12, 49), (356, 0, 0, 12, 61)]
theorem eqX9_pass : clX9_pass = eMc spsM ecX9_pass := rfl
def ecX9_passes : eCl := [(182, 0, 0, 12, 72), (185, 0, 0, 12, 71), (188, 0, 0, 12, 22), (191, 0, 0, 12, 9)]
theorem eqX9_passes : clX9_passes = eMc spsM ecX9_passes := rfl
def ecX9_pins : eCl := []
theorem eqX9_pins : clX9_pins = eMc spsM ecX9_pins := rfl
def ecX9_place : eCl := [(259, 0, 0, 12, 27), (231, 0, 1, 12, 37), (238, 0, 2, 12, 54)]
theorem eqX9_place : clX9_place = eMc spsM ecX9_place := rfl
def ecX9_pointer : eCl := []
theorem eqX9_pointer : clX9_pointer = eMc spsM ecX9_pointer := rfl
def ecX9_pop : eCl := [(231, 0, 1, 12, 37), (238, 0, 2, 12, 54), (241, 0, 1, 12, 23)]
theorem eqX9_pop : clX9_pop = eMc spsM ecX9_pop := rfl
def ecX9_popPlace : eCl := [(247, 0, 0, 12, 38)]
theorem eqX9_popPlace : clX9_popPlace = eMc spsM ecX9_popPlace := rfl
def ecX9_portBits : eCl := [(241, 0, 1, 12, 23), (299, 0, 0, 12, 59), (234, 0, 2, 12, 62)]
theorem eqX9_portBits : clX9_portBits = eMc spsM ecX9_portBits := rfl
def ecX9_ports : eCl := [(234, 0, 2, 12, 62), (241, 0, 1, 12, 23)]
theorem eqX9_ports : clX9_ports = eMc spsM ecX9_ports := rfl
def ecX9_power : eCl := [(56, 0, 1, 12, 48)]
theorem eqX9_power : clX9_power = eMc spsM ecX9_power := rfl
def ecX9_product : eCl := [(172, 0, 2, 12, 53), (238, 0, 2, 12, 54)]
theorem eqX9_product : clX9_product = eMc spsM ecX9_product := rfl
def ecX9_push : eCl := [(231, 0, 1, 12, 37), (234, 0, 2, 12, 62), (238, 0, 2, 12, 54)]
theorem eqX9_push : clX9_push = eMc spsM ecX9_push := rfl
def ecX9_pushPlace : eCl := [(244, 0, 1, 12, 44)]
theorem eqX9_pushPlace : clX9_pushPlace = eMc spsM ecX9_pushPlace := rfl
def ecX9_relative : eCl := [(169, 0, 1, 12, 45)]
theorem eqX9_relative : clX9_relative = eMc spsM ecX9_relative := rfl
def ecX9_reset : eCl := [(56, 0, 1, 12, 48)]
theorem eqX9_reset : clX9_reset = eMc spsM ecX9_reset := rfl
def ecX9_restart : eCl := [(122, 0, 0, 12, 5), (125, 0, 0, 12, 17)]
theorem eqX9_restart : clX9_restart = eMc spsM ecX9_restart := rfl
def ecX9_right : eCl := []
theorem eqX9_right : clX9_right = eMc spsM ecX9_right := rfl
def ecX9_run : eCl := [(359, 0, 1, 12, 49), (356, 0, 0, 12, 61)]
theorem eqX9_run : clX9_run = eMc spsM ecX9_run := rfl
def ecX9_seen : eCl := []
theorem eqX9_seen : clX9_seen = eMc spsM ecX9_seen := rfl
def ecX9_sent : eCl := []
theorem eqX9_sent : clX9_sent = eMc spsM ecX9_sent := rfl
def ecX9_setFlag : eCl := []
theorem eqX9_setFlag : clX9_setFlag = eMc spsM ecX9_setFlag := rfl
def ecX9_setPointer : eCl := []
theorem eqX9_setPointer : clX9_setPointer = eMc spsM ecX9_setPointer := rfl
def ecX9_shifted : eCl := [(288, 0, 0, 12, 4), (172, 0, 2, 12, 53), (163, 0, 1, 12, 12), (253, 0, 1, 12, 75)]
theorem eqX9_shifted : clX9_shifted = eMc spsM ecX9_shifted := rfl
def ecX9_showReceived : eCl := []
theorem eqX9_showReceived : clX9_showReceived = eMc spsM ecX9_showReceived := rfl
def ecX9_signed : eCl := []
theorem eqX9_signed : clX9_signed = eMc spsM ecX9_signed := rfl
def ecX9_single : eCl := [(302, 0, 1, 12, 25), (172, 0, 2, 12, 53), (291, 0, 4, 12, 69), (253, 0, 1, 12, 75), (333, 0, 3, 12, 55), (336, 0, 1, 12, 31), (339, 0, 1, 12, 70), (259, 0, 0, 12, 27), (169, 0, 1, 12, 45)]
theorem eqX9_single : clX9_single = eMc spsM ecX9_single := rfl
def ecX9_skips : eCl := [(259, 0, 0, 12, 27)]
theorem eqX9_skips : clX9_skips = eMc spsM ecX9_skips := rfl
def ecX9_step : eCl := [(356, 0, 0, 12, 61)]
theorem eqX9_step : clX9_step = eMc spsM ecX9_step := rfl
def ecX9_stepped : eCl := [(216, 0, 0, 12, 2), (219, 0, 1, 12, 11), (222, 0, 0, 12, 20), (225, 0, 0, 12, 34)]
theorem eqX9_stepped : clX9_stepped = eMc spsM ecX9_stepped := rfl
def ecX9_store : eCl := [(144, 1, 1, 0, 18), (148, 0, 1, 12, 65), (151, 0, 1, 12, 66), (154, 0, 1, 12, 64), (157, 0, 1, 12, 63)]
theorem eqX9_store : clX9_store = eMc spsM ecX9_store := rfl
def ecX9_storeDog : eCl := [(125, 0, 0, 12, 17)]
theorem eqX9_storeDog : clX9_storeDog = eMc spsM ecX9_storeDog := rfl
def ecX9_storeFlash : eCl := []
theorem eqX9_storeFlash : clX9_storeFlash = eMc spsM ecX9_storeFlash := rfl
def ecX9_storeRom : eCl := []
theorem eqX9_storeRom : clX9_storeRom = eMc spsM ecX9_storeRom := rfl
def ecX9_storeVectors : eCl := []
theorem eqX9_storeVectors : clX9_storeVectors = eMc spsM ecX9_storeVectors := rfl
def ecX9_stores : eCl := [(244, 0, 1, 12, 44), (330, 0, 1, 12, 36), (234, 0, 2, 12, 62)]
theorem eqX9_stores : clX9_stores = eMc spsM ecX9_stores := rfl
def ecX9_storesFlash : eCl := [(231, 0, 1, 12, 37), (352, 0, 2, 12, 74), (122, 0, 0, 12, 5)]
theorem eqX9_storesFlash : clX9_storesFlash = eMc spsM ecX9_storesFlash := rfl
def ecX9_subtract : eCl := [(163, 0, 1, 12, 12), (250, 1, 1, 0, 57), (172, 0, 2, 12, 53), (253, 0, 1, 12, 75)]
theorem eqX9_subtract : clX9_subtract = eMc spsM ecX9_subtract := rfl
def ecX9_through : eCl := [(231, 0, 1, 12, 37), (169, 0, 1, 12, 45)]
theorem eqX9_through : clX9_through = eMc spsM ecX9_through := rfl
def ecX9_timer : eCl := []
theorem eqX9_timer : clX9_timer = eMc spsM ecX9_timer := rfl
def ecX9_windows : eCl := []
theorem eqX9_windows : clX9_windows = eMc spsM ecX9_windows := rfl
def ecX9_word : eCl := [(359, 0, 1, 12, 49)]
theorem eqX9_word : clX9_word = eMc spsM ecX9_word := rfl
def ecX9_writes : eCl := [(122, 0, 0, 12, 5)]
theorem eqX9_writes : clX9_writes = eMc spsM ecX9_writes := rfl
def ecX9_zero : eCl := [(172, 0, 2, 12, 53), (163, 0, 1, 12, 12)]
theorem eqX9_zero : clX9_zero = eMc spsM ecX9_zero := rfl
def pgM : List eMt := [(fdX9_about, ecX9_about, bsX9_about, 2, (some .int)),
  (fdX9_add, ecX9_add, bsX9_add, 4, (some .int)),
  (fdX9_awaited, ecX9_awaited, bsX9_awaited, 1, (some .int)),
  (fdX9_bits, ecX9_bits, bsX9_bits, 2, (some .int)),
  (fdX9_carry, ecX9_carry, bsX9_carry, 1, (some .int)),
  (fdX9_clearBuffer, ecX9_clearBuffer, bsX9_clearBuffer, 1, none),
  (fdX9_code, ecX9_code, bsX9_code, 2, (some .int)),
  (fdX9_data, ecX9_data, bsX9_data, 2, (some .int)),
  (fdX9_displaced, ecX9_displaced, bsX9_displaced, 2, (some .int)),
  (fdX9_dog, ecX9_dog, bsX9_dog, 1, (some .boolean)),
  (fdX9_eeprom, ecX9_eeprom, bsX9_eeprom, 2, (some .int)),
  (fdX9_enter, ecX9_enter, bsX9_enter, 2, none),
  (fdX9_flag, ecX9_flag, bsX9_flag, 2, (some .boolean)),
  (fdX9_flashByte, ecX9_flashByte, bsX9_flashByte, 2, (some .int)),
  (fdX9_frame, ecX9_frame, bsX9_frame, 1, (some .int)),
  (fdX9_fuses, ecX9_fuses, bsX9_fuses, 2, (some .int)),
  (fdX9_got, ecX9_got, bsX9_got, 2, (some .int)),
  (fdX9_holdDog, ecX9_holdDog, bsX9_holdDog, 1, none),
  (fdX9_holds, ecX9_holds, bsX9_holds, 1, (some .boolean)),
  (fdX9_host, ecX9_host, bsX9_host, 2, (some .int)),
  (fdX9_instruction, ecX9_instruction, bsX9_instruction, 1, (some .int)),
  (fdX9_interrupt, ecX9_interrupt, bsX9_interrupt, 1, (some .int)),
  (fdX9_line, ecX9_line, bsX9_line, 1, none),
  (fdX9_load, ecX9_load, bsX9_load, 2, (some .int)),
  (fdX9_loads, ecX9_loads, bsX9_loads, 2, (some .int)),
  (fdX9_logic, ecX9_logic, bsX9_logic, 2, (some .int)),
  (fdX9_moves, ecX9_moves, bsX9_moves, 2, (some .int)),
  (fdX9_next, ecX9_next, bsX9_next, 1, (some .int)),
  (fdX9_nines, ecX9_nines, bsX9_nines, 2, (some .int)),
  (fdX9_ofNumber, ecX9_ofNumber, bsX9_ofNumber, 2, (some .int)),
  (fdX9_ofTwo, ecX9_ofTwo, bsX9_ofTwo, 2, (some .int)),
  (fdX9_others, ecX9_others, bsX9_others, 2, (some .int)),
  (fdX9_pairs, ecX9_pairs, bsX9_pairs, 2, (some .int)),
  (fdX9_pass, ecX9_pass, bsX9_pass, 2, (some .int)),
  (fdX9_passes, ecX9_passes, bsX9_passes, 1, (some .boolean)),
  (fdX9_pins, ecX9_pins, bsX9_pins, 2, (some .int)),
  (fdX9_place, ecX9_place, bsX9_place, 2, (some .int)),
  (fdX9_pointer, ecX9_pointer, bsX9_pointer, 2, (some .int)),
  (fdX9_pop, ecX9_pop, bsX9_pop, 1, (some .int)),
  (fdX9_popPlace, ecX9_popPlace, bsX9_popPlace, 1, (some .int)),
  (fdX9_portBits, ecX9_portBits, bsX9_portBits, 2, (some .int)),
  (fdX9_ports, ecX9_ports, bsX9_ports, 2, (some .int)),
  (fdX9_power, ecX9_power, bsX9_power, 2, (some .boolean)),
  (fdX9_product, ecX9_product, bsX9_product, 3, none),
  (fdX9_push, ecX9_push, bsX9_push, 2, none),
  (fdX9_pushPlace, ecX9_pushPlace, bsX9_pushPlace, 2, none),
  (fdX9_relative, ecX9_relative, bsX9_relative, 2, (some .int)),
  (fdX9_reset, ecX9_reset, bsX9_reset, 1, none),
  (fdX9_restart, ecX9_restart, bsX9_restart, 2, none),
  (fdX9_right, ecX9_right, bsX9_right, 2, (some .boolean)),
  (fdX9_run, ecX9_run, bsX9_run, 2, (some .int)),
  (fdX9_seen, ecX9_seen, bsX9_seen, 2, (some .int)),
  (fdX9_sent, ecX9_sent, bsX9_sent, 1, (some .int)),
  (fdX9_setFlag, ecX9_setFlag, bsX9_setFlag, 3, none),
  (fdX9_setPointer, ecX9_setPointer, bsX9_setPointer, 3, none),
  (fdX9_shifted, ecX9_shifted, bsX9_shifted, 4, (some .int)),
  (fdX9_showReceived, ecX9_showReceived, bsX9_showReceived, 1, none),
  (fdX9_signed, ecX9_signed, bsX9_signed, 1, (some .int)),
  (fdX9_single, ecX9_single, bsX9_single, 2, (some .int)),
  (fdX9_skips, ecX9_skips, bsX9_skips, 1, (some .int)),
  (fdX9_step, ecX9_step, bsX9_step, 1, (some .int)),
  (fdX9_stepped, ecX9_stepped, bsX9_stepped, 1, (some .int)),
  (fdX9_store, ecX9_store, bsX9_store, 3, none),
  (fdX9_storeDog, ecX9_storeDog, bsX9_storeDog, 2, none),
  (fdX9_storeFlash, ecX9_storeFlash, bsX9_storeFlash, 2, none),
  (fdX9_storeRom, ecX9_storeRom, bsX9_storeRom, 2, none),
  (fdX9_storeVectors, ecX9_storeVectors, bsX9_storeVectors, 2, none),
  (fdX9_stores, ecX9_stores, bsX9_stores, 2, (some .int)),
  (fdX9_storesFlash, ecX9_storesFlash, bsX9_storesFlash, 1, none),
  (fdX9_subtract, ecX9_subtract, bsX9_subtract, 5, (some .int)),
  (fdX9_through, ecX9_through, bsX9_through, 2, (some .int)),
  (fdX9_timer, ecX9_timer, bsX9_timer, 1, none),
  (fdX9_windows, ecX9_windows, bsX9_windows, 1, none),
  (fdX9_word, ecX9_word, bsX9_word, 2, (some .int)),
  (fdX9_writes, ecX9_writes, bsX9_writes, 3, (some .boolean)),
  (fdX9_zero, ecX9_zero, bsX9_zero, 2, none)]
set_option maxRecDepth 100000 in
theorem prM : ePr shM pgM spsM := ePl_ok (P := pgM) (⟨by rw [← eqX9_about]; rfl, by rw [← eqX9_add]; rfl, by rw [← eqX9_awaited]; rfl, by rw [← eqX9_bits]; rfl, by rw [← eqX9_carry]; rfl, by rw [← eqX9_clearBuffer]; rfl, by rw [← eqX9_code]; rfl, by rw [← eqX9_data]; rfl, by rw [← eqX9_displaced]; rfl, by rw [← eqX9_dog]; rfl, by rw [← eqX9_eeprom]; rfl, by rw [← eqX9_enter]; rfl, by rw [← eqX9_flag]; rfl, by rw [← eqX9_flashByte]; rfl, by rw [← eqX9_frame]; rfl, by rw [← eqX9_fuses]; rfl, by rw [← eqX9_got]; rfl, by rw [← eqX9_holdDog]; rfl, by rw [← eqX9_holds]; rfl, by rw [← eqX9_host]; rfl, by rw [← eqX9_instruction]; rfl, by rw [← eqX9_interrupt]; rfl, by rw [← eqX9_line]; rfl, by rw [← eqX9_load]; rfl, by rw [← eqX9_loads]; rfl, by rw [← eqX9_logic]; rfl, by rw [← eqX9_moves]; rfl, by rw [← eqX9_next]; rfl, by rw [← eqX9_nines]; rfl, by rw [← eqX9_ofNumber]; rfl, by rw [← eqX9_ofTwo]; rfl, by rw [← eqX9_others]; rfl, by rw [← eqX9_pairs]; rfl, by rw [← eqX9_pass]; rfl, by rw [← eqX9_passes]; rfl, by rw [← eqX9_pins]; rfl, by rw [← eqX9_place]; rfl, by rw [← eqX9_pointer]; rfl, by rw [← eqX9_pop]; rfl, by rw [← eqX9_popPlace]; rfl, by rw [← eqX9_portBits]; rfl, by rw [← eqX9_ports]; rfl, by rw [← eqX9_power]; rfl, by rw [← eqX9_product]; rfl, by rw [← eqX9_push]; rfl, by rw [← eqX9_pushPlace]; rfl, by rw [← eqX9_relative]; rfl, by rw [← eqX9_reset]; rfl, by rw [← eqX9_restart]; rfl, by rw [← eqX9_right]; rfl, by rw [← eqX9_run]; rfl, by rw [← eqX9_seen]; rfl, by rw [← eqX9_sent]; rfl, by rw [← eqX9_setFlag]; rfl, by rw [← eqX9_setPointer]; rfl, by rw [← eqX9_shifted]; rfl, by rw [← eqX9_showReceived]; rfl, by rw [← eqX9_signed]; rfl, by rw [← eqX9_single]; rfl, by rw [← eqX9_skips]; rfl, by rw [← eqX9_step]; rfl, by rw [← eqX9_stepped]; rfl, by rw [← eqX9_store]; rfl, by rw [← eqX9_storeDog]; rfl, by rw [← eqX9_storeFlash]; rfl, by rw [← eqX9_storeRom]; rfl, by rw [← eqX9_storeVectors]; rfl, by rw [← eqX9_stores]; rfl, by rw [← eqX9_storesFlash]; rfl, by rw [← eqX9_subtract]; rfl, by rw [← eqX9_through]; rfl, by rw [← eqX9_timer]; rfl, by rw [← eqX9_windows]; rfl, by rw [← eqX9_word]; rfl, by rw [← eqX9_writes]; rfl, by rw [← eqX9_zero]; rfl, trivial⟩)
