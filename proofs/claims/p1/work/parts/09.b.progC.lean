/-! the programs that the evaluator runs: shC -/
def spsC : Nat → mSp := fun k => ([spJ6_bitCount_0f7a4, spJ7_fill_53178, spJ7_fill_fda19, spJ7_rangeCheck_23922, spX0_add, spX0_addToPair, spX0_carry, spX0_count, spX0_invert, spX0_logic, spX0_mark, spX0_markPair, spX0_markProduct, spX0_shiftRight, spX0_signed, spX0_signs, spX0_subtract, spX0_subtractFromPair, spX0_subtractOn, spX1_atDistance, spX1_branch, spX1_byBit, spX1_control, spX1_enter, spX1_first, spX1_goTo, spX1_instruction, spX1_isControl, spX1_jumpBy, spX1_kind, spX1_loadInto, spX1_loadThenMore, spX1_logicOfTwo, spX1_multiply, spX1_multiplyMixed, spX1_nextWord, spX1_ofOne, spX1_ofPair, spX1_oneLess, spX1_ones, spX1_pair, spX1_popPc, spX1_port, spX1_portBit, spX1_pushPc, spX1_second, spX1_setPair, spX1_skipIf, spX1_statusBit, spX1_storeFrom, spX1_storeThenMore, spX1_toNext, spX1_waitingInterrupt, spX1_withNumber, spX1_zeroes, spX2_clear, spX2_cycle, spX2_storeControl, spX2_storeOther, spX3_changePage, spX3_clear, spX3_command, spX3_cycle, spX3_endCommand, spX3_fillBuffer, spX3_hasWord, spX3_isHidden, spX3_program, spX3_seen, spX3_seenByte, spX3_storeControl, spX3_writePage, spX4_clear, spX4_comeOn, spX4_cycle, spX4_firstReceived, spX4_frame, spX4_queue, spX4_sendOn, spX4_storeData, spX4_storeParts, spX4_storeState, spX4_take, spX5_clear, spX5_cycle, spX5_load, spX5_moveStack, spX5_pop, spX5_push, spX5_stackPointer, spX5_store, spX5_storeVectorControl, spX6_cycle, spX6_tick, spX6_ticks, spX7_clear, spX7_cycle, spX7_limit, spX7_storeControl, spX8_about, spX8_data, spX8_eeprom, spX8_fuses, spX8_host, spX8_inFlash, spX8_letPass, spX8_oneStep, spX8_pins, spX8_power, spX8_reset, spX8_resetBy, spX8_sent, spX8_step, spX8_word] : List mSp).getD k (fun _ _ _ _ => False)
def ecJ6_bitCount_0f7a4 : eCl := []
theorem eqJ6_bitCount_0f7a4 : clJ6_bitCount_0f7a4 = eMc spsC ecJ6_bitCount_0f7a4 := rfl
def ecJ7_fill_53178 : eCl := []
theorem eqJ7_fill_53178 : clJ7_fill_53178 = eMc spsC ecJ7_fill_53178 := rfl
def ecJ7_fill_fda19 : eCl := [(13, 1, 3, 0, 3)]
theorem eqJ7_fill_fda19 : clJ7_fill_fda19 = eMc spsC ecJ7_fill_fda19 := rfl
def ecJ7_rangeCheck_23922 : eCl := []
theorem eqJ7_rangeCheck_23922 : clJ7_rangeCheck_23922 = eMc spsC ecJ7_rangeCheck_23922 := rfl
def ecX0_add : eCl := [(15, 1, 1, 0, 14), (19, 1, 3, 0, 15), (23, 0, 2, 3, 10)]
theorem eqX0_add : clX0_add = eMc spsC ecX0_add := rfl
def ecX0_addToPair : eCl := [(40, 0, 3, 3, 11)]
theorem eqX0_addToPair : clX0_addToPair = eMc spsC ecX0_addToPair := rfl
def ecX0_carry : eCl := []
theorem eqX0_carry : clX0_carry = eMc spsC ecX0_carry := rfl
def ecX0_count : eCl := [(19, 1, 3, 0, 15), (23, 0, 2, 3, 10)]
theorem eqX0_count : clX0_count = eMc spsC ecX0_count := rfl
def ecX0_invert : eCl := [(23, 0, 2, 3, 10), (35, 0, 1, 3, 9)]
theorem eqX0_invert : clX0_invert = eMc spsC ecX0_invert := rfl
def ecX0_logic : eCl := [(19, 1, 3, 0, 15), (23, 0, 2, 3, 10)]
theorem eqX0_logic : clX0_logic = eMc spsC ecX0_logic := rfl
def ecX0_mark : eCl := []
theorem eqX0_mark : clX0_mark = eMc spsC ecX0_mark := rfl
def ecX0_markPair : eCl := [(19, 1, 3, 0, 15), (23, 0, 2, 3, 10)]
theorem eqX0_markPair : clX0_markPair = eMc spsC ecX0_markPair := rfl
def ecX0_markProduct : eCl := [(23, 0, 2, 3, 10)]
theorem eqX0_markProduct : clX0_markProduct = eMc spsC ecX0_markProduct := rfl
def ecX0_shiftRight : eCl := [(19, 1, 3, 0, 15), (23, 0, 2, 3, 10)]
theorem eqX0_shiftRight : clX0_shiftRight = eMc spsC ecX0_shiftRight := rfl
def ecX0_signed : eCl := []
theorem eqX0_signed : clX0_signed = eMc spsC ecX0_signed := rfl
def ecX0_signs : eCl := []
theorem eqX0_signs : clX0_signs = eMc spsC ecX0_signs := rfl
def ecX0_subtract : eCl := [(15, 1, 1, 0, 14), (19, 1, 3, 0, 15), (23, 0, 2, 3, 10)]
theorem eqX0_subtract : clX0_subtract = eMc spsC ecX0_subtract := rfl
def ecX0_subtractFromPair : eCl := [(40, 0, 3, 3, 11)]
theorem eqX0_subtractFromPair : clX0_subtractFromPair = eMc spsC ecX0_subtractFromPair := rfl
def ecX0_subtractOn : eCl := [(27, 0, 0, 3, 6), (31, 0, 3, 3, 16)]
theorem eqX0_subtractOn : clX0_subtractOn = eMc spsC ecX0_subtractOn := rfl
def ecX1_atDistance : eCl := [(149, 0, 1, 4, 40), (113, 1, 1, 0, 24), (179, 0, 2, 8, 90), (182, 0, 1, 8, 85)]
theorem eqX1_atDistance : clX1_atDistance = eMc spsC ecX1_atDistance := rfl
def ecX1_branch : eCl := []
theorem eqX1_branch : clX1_branch = eMc spsC ecX1_branch := rfl
def ecX1_byBit : eCl := [(231, 0, 2, 4, 20), (113, 1, 1, 0, 24), (166, 0, 1, 4, 47)]
theorem eqX1_byBit : clX1_byBit = eMc spsC ecX1_byBit := rfl
def ecX1_control : eCl := [(208, 0, 1, 4, 48), (211, 0, 0, 4, 41), (149, 0, 1, 4, 40), (191, 0, 2, 6, 69), (222, 0, 3, 6, 67), (44, 0, 0, 4, 44)]
theorem eqX1_control : clX1_control = eMc spsC ecX1_control := rfl
def ecX1_enter : eCl := [(44, 0, 0, 4, 44)]
theorem eqX1_enter : clX1_enter = eMc spsC ecX1_enter := rfl
def ecX1_first : eCl := []
theorem eqX1_first : clX1_first = eMc spsC ecX1_first := rfl
def ecX1_goTo : eCl := []
theorem eqX1_goTo : clX1_goTo = eMc spsC ecX1_goTo := rfl
def ecX1_instruction : eCl := [(50, 0, 0, 4, 35), (62, 1, 1, 0, 29), (66, 0, 1, 4, 54), (69, 0, 1, 4, 39), (72, 0, 1, 4, 32), (75, 0, 1, 4, 19), (78, 0, 1, 4, 42), (81, 0, 2, 4, 28), (44, 0, 0, 4, 44), (85, 0, 1, 4, 21), (88, 0, 1, 4, 30), (91, 0, 1, 4, 49), (94, 0, 1, 4, 51), (97, 1, 1, 0, 27), (101, 0, 1, 4, 22), (104, 0, 1, 4, 36), (107, 0, 1, 4, 37), (110, 0, 1, 4, 43), (113, 1, 1, 0, 24), (116, 1, 1, 0, 45), (119, 0, 2, 4, 33), (123, 0, 1, 4, 53)]
theorem eqX1_instruction : clX1_instruction = eMc spsC ecX1_instruction := rfl
def ecX1_isControl : eCl := []
theorem eqX1_isControl : clX1_isControl = eMc spsC ecX1_isControl := rfl
def ecX1_jumpBy : eCl := []
theorem eqX1_jumpBy : clX1_jumpBy = eMc spsC ecX1_jumpBy := rfl
def ecX1_kind : eCl := []
theorem eqX1_kind : clX1_kind = eMc spsC ecX1_kind := rfl
def ecX1_loadInto : eCl := [(113, 1, 1, 0, 24), (50, 0, 0, 4, 35), (182, 0, 1, 8, 85), (185, 0, 1, 4, 31), (188, 0, 1, 4, 38), (149, 0, 1, 4, 40), (191, 0, 2, 6, 69), (152, 0, 2, 4, 46), (135, 0, 0, 8, 87)]
theorem eqX1_loadInto : clX1_loadInto = eMc spsC ecX1_loadInto := rfl
def ecX1_loadThenMore : eCl := [(149, 0, 1, 4, 40), (182, 0, 1, 8, 85), (152, 0, 2, 4, 46)]
theorem eqX1_loadThenMore : clX1_loadThenMore = eMc spsC ecX1_loadThenMore := rfl
def ecX1_logicOfTwo : eCl := [(113, 1, 1, 0, 24), (116, 1, 1, 0, 45), (176, 0, 1, 3, 9)]
theorem eqX1_logicOfTwo : clX1_logicOfTwo = eMc spsC ecX1_logicOfTwo := rfl
def ecX1_multiply : eCl := [(152, 0, 2, 4, 46), (163, 0, 2, 3, 12)]
theorem eqX1_multiply : clX1_multiply = eMc spsC ecX1_multiply := rfl
def ecX1_multiplyMixed : eCl := [(156, 1, 1, 0, 14), (119, 0, 2, 4, 33)]
theorem eqX1_multiplyMixed : clX1_multiplyMixed = eMc spsC ecX1_multiplyMixed := rfl
def ecX1_nextWord : eCl := [(126, 0, 1, 6, 68)]
theorem eqX1_nextWord : clX1_nextWord = eMc spsC ecX1_nextWord := rfl
def ecX1_ofOne : eCl := [(113, 1, 1, 0, 24), (197, 0, 1, 3, 8), (170, 0, 3, 3, 16), (200, 0, 3, 3, 7), (203, 0, 2, 3, 13), (173, 0, 0, 3, 6)]
theorem eqX1_ofOne : clX1_ofOne = eMc spsC ecX1_ofOne := rfl
def ecX1_ofPair : eCl := [(149, 0, 1, 4, 40), (225, 0, 2, 3, 5), (228, 0, 2, 3, 17), (152, 0, 2, 4, 46)]
theorem eqX1_ofPair : clX1_ofPair = eMc spsC ecX1_ofPair := rfl
def ecX1_oneLess : eCl := [(149, 0, 1, 4, 40), (152, 0, 2, 4, 46)]
theorem eqX1_oneLess : clX1_oneLess = eMc spsC ecX1_oneLess := rfl
def ecX1_ones : eCl := [(113, 1, 1, 0, 24), (116, 1, 1, 0, 45), (166, 0, 1, 4, 47), (170, 0, 3, 3, 16), (173, 0, 0, 3, 6), (145, 0, 3, 3, 4)]
theorem eqX1_ones : clX1_ones = eMc spsC ecX1_ones := rfl
def ecX1_pair : eCl := []
theorem eqX1_pair : clX1_pair = eMc spsC ecX1_pair := rfl
def ecX1_popPc : eCl := [(135, 0, 0, 8, 87)]
theorem eqX1_popPc : clX1_popPc = eMc spsC ecX1_popPc := rfl
def ecX1_port : eCl := [(113, 1, 1, 0, 24), (179, 0, 2, 8, 90), (182, 0, 1, 8, 85)]
theorem eqX1_port : clX1_port = eMc spsC ecX1_port := rfl
def ecX1_portBit : eCl := [(182, 0, 1, 8, 85), (166, 0, 1, 4, 47), (179, 0, 2, 8, 90)]
theorem eqX1_portBit : clX1_portBit = eMc spsC ecX1_portBit := rfl
def ecX1_pushPc : eCl := [(131, 0, 1, 8, 88)]
theorem eqX1_pushPc : clX1_pushPc = eMc spsC ecX1_pushPc := rfl
def ecX1_second : eCl := []
theorem eqX1_second : clX1_second = eMc spsC ecX1_second := rfl
def ecX1_setPair : eCl := []
theorem eqX1_setPair : clX1_setPair = eMc spsC ecX1_setPair := rfl
def ecX1_skipIf : eCl := [(50, 0, 0, 4, 35)]
theorem eqX1_skipIf : clX1_skipIf = eMc spsC ecX1_skipIf := rfl
def ecX1_statusBit : eCl := []
theorem eqX1_statusBit : clX1_statusBit = eMc spsC ecX1_statusBit := rfl
def ecX1_storeFrom : eCl := [(113, 1, 1, 0, 24), (50, 0, 0, 4, 35), (179, 0, 2, 8, 90), (194, 0, 2, 4, 50), (188, 0, 1, 4, 38), (149, 0, 1, 4, 40), (131, 0, 1, 8, 88)]
theorem eqX1_storeFrom : clX1_storeFrom = eMc spsC ecX1_storeFrom := rfl
def ecX1_storeThenMore : eCl := [(149, 0, 1, 4, 40), (179, 0, 2, 8, 90), (152, 0, 2, 4, 46)]
theorem eqX1_storeThenMore : clX1_storeThenMore = eMc spsC ecX1_storeThenMore := rfl
def ecX1_toNext : eCl := [(50, 0, 0, 4, 35), (44, 0, 0, 4, 44)]
theorem eqX1_toNext : clX1_toNext = eMc spsC ecX1_toNext := rfl
def ecX1_waitingInterrupt : eCl := []
theorem eqX1_waitingInterrupt : clX1_waitingInterrupt = eMc spsC ecX1_waitingInterrupt := rfl
def ecX1_withNumber : eCl := [(170, 0, 3, 3, 16), (142, 0, 2, 3, 18), (176, 0, 1, 3, 9)]
theorem eqX1_withNumber : clX1_withNumber = eMc spsC ecX1_withNumber := rfl
def ecX1_zeroes : eCl := [(113, 1, 1, 0, 24), (116, 1, 1, 0, 45), (142, 0, 2, 3, 18), (145, 0, 3, 3, 4), (149, 0, 1, 4, 40), (152, 0, 2, 4, 46), (156, 1, 1, 0, 14), (119, 0, 2, 4, 33), (159, 0, 1, 4, 34)]
theorem eqX1_zeroes : clX1_zeroes = eMc spsC ecX1_zeroes := rfl
def ecX2_clear : eCl := []
theorem eqX2_clear : clX2_clear = eMc spsC ecX2_clear := rfl
def ecX2_cycle : eCl := []
theorem eqX2_cycle : clX2_cycle = eMc spsC ecX2_cycle := rfl
def ecX2_storeControl : eCl := []
theorem eqX2_storeControl : clX2_storeControl = eMc spsC ecX2_storeControl := rfl
def ecX2_storeOther : eCl := []
theorem eqX2_storeOther : clX2_storeOther = eMc spsC ecX2_storeOther := rfl
def ecX3_changePage : eCl := [(53, 0, 0, 6, 63), (80, 1, 4, 0, 2), (83, 0, 1, 6, 71)]
theorem eqX3_changePage : clX3_changePage = eMc spsC ecX3_changePage := rfl
def ecX3_clear : eCl := []
theorem eqX3_clear : clX3_clear = eMc spsC ecX3_clear := rfl
def ecX3_command : eCl := []
theorem eqX3_command : clX3_command = eMc spsC ecX3_command := rfl
def ecX3_cycle : eCl := [(53, 0, 0, 6, 63)]
theorem eqX3_cycle : clX3_cycle = eMc spsC ecX3_cycle := rfl
def ecX3_endCommand : eCl := []
theorem eqX3_endCommand : clX3_endCommand = eMc spsC ecX3_endCommand := rfl
def ecX3_fillBuffer : eCl := [(76, 0, 1, 6, 65)]
theorem eqX3_fillBuffer : clX3_fillBuffer = eMc spsC ecX3_fillBuffer := rfl
def ecX3_hasWord : eCl := []
theorem eqX3_hasWord : clX3_hasWord = eMc spsC ecX3_hasWord := rfl
def ecX3_isHidden : eCl := []
theorem eqX3_isHidden : clX3_isHidden = eMc spsC ecX3_isHidden := rfl
def ecX3_program : eCl := [(56, 0, 0, 6, 61), (68, 0, 2, 6, 59), (72, 0, 2, 6, 64), (53, 0, 0, 6, 63)]
theorem eqX3_program : clX3_program = eMc spsC ecX3_program := rfl
def ecX3_seen : eCl := []
theorem eqX3_seen : clX3_seen = eMc spsC ecX3_seen := rfl
def ecX3_seenByte : eCl := [(56, 0, 0, 6, 61), (53, 0, 0, 6, 63), (60, 0, 2, 6, 66), (64, 0, 1, 6, 68)]
theorem eqX3_seenByte : clX3_seenByte = eMc spsC ecX3_seenByte := rfl
def ecX3_storeControl : eCl := []
theorem eqX3_storeControl : clX3_storeControl = eMc spsC ecX3_storeControl := rfl
def ecX3_writePage : eCl := [(76, 0, 1, 6, 65)]
theorem eqX3_writePage : clX3_writePage = eMc spsC ecX3_writePage := rfl
def ecX4_clear : eCl := []
theorem eqX4_clear : clX4_clear = eMc spsC ecX4_clear := rfl
def ecX4_comeOn : eCl := []
theorem eqX4_comeOn : clX4_comeOn = eMc spsC ecX4_comeOn := rfl
def ecX4_cycle : eCl := [(50, 0, 0, 7, 78), (56, 0, 0, 7, 76), (60, 0, 0, 7, 73)]
theorem eqX4_cycle : clX4_cycle = eMc spsC ecX4_cycle := rfl
def ecX4_firstReceived : eCl := []
theorem eqX4_firstReceived : clX4_firstReceived = eMc spsC ecX4_firstReceived := rfl
def ecX4_frame : eCl := []
theorem eqX4_frame : clX4_frame = eMc spsC ecX4_frame := rfl
def ecX4_queue : eCl := []
theorem eqX4_queue : clX4_queue = eMc spsC ecX4_queue := rfl
def ecX4_sendOn : eCl := []
theorem eqX4_sendOn : clX4_sendOn = eMc spsC ecX4_sendOn := rfl
def ecX4_storeData : eCl := []
theorem eqX4_storeData : clX4_storeData = eMc spsC ecX4_storeData := rfl
def ecX4_storeParts : eCl := []
theorem eqX4_storeParts : clX4_storeParts = eMc spsC ecX4_storeParts := rfl
def ecX4_storeState : eCl := []
theorem eqX4_storeState : clX4_storeState = eMc spsC ecX4_storeState := rfl
def ecX4_take : eCl := []
theorem eqX4_take : clX4_take = eMc spsC ecX4_take := rfl
def ecX5_clear : eCl := [(52, 1, 2, 0, 1), (58, 1, 4, 0, 2), (68, 0, 0, 6, 60), (71, 0, 0, 7, 72), (72, 0, 0, 5, 55), (73, 0, 0, 10, 95)]
theorem eqX5_clear : clX5_clear = eMc spsC ecX5_clear := rfl
def ecX5_cycle : eCl := [(74, 0, 0, 6, 62), (77, 0, 0, 9, 92), (78, 0, 0, 7, 74), (79, 0, 0, 5, 56), (80, 0, 0, 10, 96)]
theorem eqX5_cycle : clX5_cycle = eMc spsC ecX5_cycle := rfl
def ecX5_load : eCl := [(83, 0, 0, 7, 82)]
theorem eqX5_load : clX5_load = eMc spsC ecX5_load := rfl
def ecX5_moveStack : eCl := []
theorem eqX5_moveStack : clX5_moveStack = eMc spsC ecX5_moveStack := rfl
def ecX5_pop : eCl := [(117, 0, 0, 8, 89), (123, 0, 1, 8, 86), (126, 0, 1, 8, 85)]
theorem eqX5_pop : clX5_pop = eMc spsC ecX5_pop := rfl
def ecX5_push : eCl := [(117, 0, 0, 8, 89), (120, 0, 2, 8, 90), (123, 0, 1, 8, 86)]
theorem eqX5_push : clX5_push = eMc spsC ecX5_push := rfl
def ecX5_stackPointer : eCl := []
theorem eqX5_stackPointer : clX5_stackPointer = eMc spsC ecX5_stackPointer := rfl
def ecX5_store : eCl := [(93, 0, 1, 5, 57), (97, 0, 2, 5, 58), (101, 0, 1, 8, 91), (105, 0, 1, 6, 70), (107, 0, 1, 10, 98), (108, 0, 1, 7, 81), (111, 0, 1, 7, 80), (114, 0, 1, 7, 79)]
theorem eqX5_store : clX5_store = eMc spsC ecX5_store := rfl
def ecX5_storeVectorControl : eCl := []
theorem eqX5_storeVectorControl : clX5_storeVectorControl = eMc spsC ecX5_storeVectorControl := rfl
def ecX6_cycle : eCl := [(19, 0, 1, 9, 94), (23, 0, 0, 9, 93)]
theorem eqX6_cycle : clX6_cycle = eMc spsC ecX6_cycle := rfl
def ecX6_tick : eCl := []
theorem eqX6_tick : clX6_tick = eMc spsC ecX6_tick := rfl
def ecX6_ticks : eCl := []
theorem eqX6_ticks : clX6_ticks = eMc spsC ecX6_ticks := rfl
def ecX7_clear : eCl := []
theorem eqX7_clear : clX7_clear = eMc spsC ecX7_clear := rfl
def ecX7_cycle : eCl := [(22, 1, 1, 0, 97)]
theorem eqX7_cycle : clX7_cycle = eMc spsC ecX7_cycle := rfl
def ecX7_limit : eCl := []
theorem eqX7_limit : clX7_limit = eMc spsC ecX7_limit := rfl
def ecX7_storeControl : eCl := []
theorem eqX7_storeControl : clX7_storeControl = eMc spsC ecX7_storeControl := rfl
def ecX8_about : eCl := [(134, 0, 0, 8, 89), (158, 1, 1, 0, 0), (204, 0, 0, 4, 52)]
theorem eqX8_about : clX8_about = eMc spsC ecX8_about := rfl
def ecX8_data : eCl := [(94, 0, 0, 7, 75), (97, 0, 1, 8, 85)]
theorem eqX8_data : clX8_data = eMc spsC ecX8_data := rfl
def ecX8_eeprom : eCl := []
theorem eqX8_eeprom : clX8_eeprom = eMc spsC ecX8_eeprom := rfl
def ecX8_fuses : eCl := []
theorem eqX8_fuses : clX8_fuses = eMc spsC ecX8_fuses := rfl
def ecX8_host : eCl := [(51, 0, 1, 7, 77)]
theorem eqX8_host : clX8_host = eMc spsC ecX8_host := rfl
def ecX8_inFlash : eCl := []
theorem eqX8_inFlash : clX8_inFlash = eMc spsC ecX8_inFlash := rfl
def ecX8_letPass : eCl := [(224, 0, 0, 8, 84), (29, 0, 1, 11, 110)]
theorem eqX8_letPass : clX8_letPass = eMc spsC ecX8_letPass := rfl
def ecX8_oneStep : eCl := [(204, 0, 0, 4, 52), (209, 0, 1, 11, 105), (215, 0, 1, 4, 23), (218, 0, 0, 4, 26)]
theorem eqX8_oneStep : clX8_oneStep = eMc spsC ecX8_oneStep := rfl
def ecX8_pins : eCl := []
theorem eqX8_pins : clX8_pins = eMc spsC ecX8_pins := rfl
def ecX8_power : eCl := [(29, 0, 1, 11, 110)]
theorem eqX8_power : clX8_power = eMc spsC ecX8_power := rfl
def ecX8_reset : eCl := [(29, 0, 1, 11, 110)]
theorem eqX8_reset : clX8_reset = eMc spsC ecX8_reset := rfl
def ecX8_resetBy : eCl := [(228, 0, 1, 8, 83), (128, 0, 1, 4, 25)]
theorem eqX8_resetBy : clX8_resetBy = eMc spsC ecX8_resetBy := rfl
def ecX8_sent : eCl := []
theorem eqX8_sent : clX8_sent = eMc spsC ecX8_sent := rfl
def ecX8_step : eCl := [(33, 0, 0, 11, 106)]
theorem eqX8_step : clX8_step = eMc spsC ecX8_step := rfl
def ecX8_word : eCl := [(70, 1, 1, 0, 104)]
theorem eqX8_word : clX8_word = eMc spsC ecX8_word := rfl
def pgC : List eMt := [(fdJ6_bitCount_0f7a4, ecJ6_bitCount_0f7a4, bsJ6_bitCount_0f7a4, 1, (some .int)),
  (fdJ7_fill_53178, ecJ7_fill_53178, bsJ7_fill_53178, 2, none),
  (fdJ7_fill_fda19, ecJ7_fill_fda19, bsJ7_fill_fda19, 4, none),
  (fdJ7_rangeCheck_23922, ecJ7_rangeCheck_23922, bsJ7_rangeCheck_23922, 3, none),
  (fdX0_add, ecX0_add, bsX0_add, 4, (some .int)),
  (fdX0_addToPair, ecX0_addToPair, bsX0_addToPair, 3, (some .int)),
  (fdX0_carry, ecX0_carry, bsX0_carry, 1, (some .int)),
  (fdX0_count, ecX0_count, bsX0_count, 4, (some .int)),
  (fdX0_invert, ecX0_invert, bsX0_invert, 2, (some .int)),
  (fdX0_logic, ecX0_logic, bsX0_logic, 2, (some .int)),
  (fdX0_mark, ecX0_mark, bsX0_mark, 3, none),
  (fdX0_markPair, ecX0_markPair, bsX0_markPair, 4, none),
  (fdX0_markProduct, ecX0_markProduct, bsX0_markProduct, 3, none),
  (fdX0_shiftRight, ecX0_shiftRight, bsX0_shiftRight, 3, (some .int)),
  (fdX0_signed, ecX0_signed, bsX0_signed, 1, (some .int)),
  (fdX0_signs, ecX0_signs, bsX0_signs, 3, (some .int)),
  (fdX0_subtract, ecX0_subtract, bsX0_subtract, 4, (some .int)),
  (fdX0_subtractFromPair, ecX0_subtractFromPair, bsX0_subtractFromPair, 3, (some .int)),
  (fdX0_subtractOn, ecX0_subtractOn, bsX0_subtractOn, 3, (some .int)),
  (fdX1_atDistance, ecX1_atDistance, bsX1_atDistance, 2, (some .int)),
  (fdX1_branch, ecX1_branch, bsX1_branch, 3, (some .int)),
  (fdX1_byBit, ecX1_byBit, bsX1_byBit, 2, (some .int)),
  (fdX1_control, ecX1_control, bsX1_control, 2, (some .int)),
  (fdX1_enter, ecX1_enter, bsX1_enter, 2, none),
  (fdX1_first, ecX1_first, bsX1_first, 1, (some .int)),
  (fdX1_goTo, ecX1_goTo, bsX1_goTo, 2, none),
  (fdX1_instruction, ecX1_instruction, bsX1_instruction, 1, (some .int)),
  (fdX1_isControl, ecX1_isControl, bsX1_isControl, 1, (some .boolean)),
  (fdX1_jumpBy, ecX1_jumpBy, bsX1_jumpBy, 3, (some .int)),
  (fdX1_kind, ecX1_kind, bsX1_kind, 1, (some .int)),
  (fdX1_loadInto, ecX1_loadInto, bsX1_loadInto, 2, (some .int)),
  (fdX1_loadThenMore, ecX1_loadThenMore, bsX1_loadThenMore, 2, (some .int)),
  (fdX1_logicOfTwo, ecX1_logicOfTwo, bsX1_logicOfTwo, 2, (some .int)),
  (fdX1_multiply, ecX1_multiply, bsX1_multiply, 3, (some .int)),
  (fdX1_multiplyMixed, ecX1_multiplyMixed, bsX1_multiplyMixed, 2, (some .int)),
  (fdX1_nextWord, ecX1_nextWord, bsX1_nextWord, 1, (some .int)),
  (fdX1_ofOne, ecX1_ofOne, bsX1_ofOne, 2, (some .int)),
  (fdX1_ofPair, ecX1_ofPair, bsX1_ofPair, 2, (some .int)),
  (fdX1_oneLess, ecX1_oneLess, bsX1_oneLess, 2, (some .int)),
  (fdX1_ones, ecX1_ones, bsX1_ones, 2, (some .int)),
  (fdX1_pair, ecX1_pair, bsX1_pair, 2, (some .int)),
  (fdX1_popPc, ecX1_popPc, bsX1_popPc, 1, none),
  (fdX1_port, ecX1_port, bsX1_port, 2, (some .int)),
  (fdX1_portBit, ecX1_portBit, bsX1_portBit, 2, (some .int)),
  (fdX1_pushPc, ecX1_pushPc, bsX1_pushPc, 1, none),
  (fdX1_second, ecX1_second, bsX1_second, 1, (some .int)),
  (fdX1_setPair, ecX1_setPair, bsX1_setPair, 3, none),
  (fdX1_skipIf, ecX1_skipIf, bsX1_skipIf, 2, (some .int)),
  (fdX1_statusBit, ecX1_statusBit, bsX1_statusBit, 2, (some .int)),
  (fdX1_storeFrom, ecX1_storeFrom, bsX1_storeFrom, 2, (some .int)),
  (fdX1_storeThenMore, ecX1_storeThenMore, bsX1_storeThenMore, 3, none),
  (fdX1_toNext, ecX1_toNext, bsX1_toNext, 2, (some .int)),
  (fdX1_waitingInterrupt, ecX1_waitingInterrupt, bsX1_waitingInterrupt, 1, (some .int)),
  (fdX1_withNumber, ecX1_withNumber, bsX1_withNumber, 2, (some .int)),
  (fdX1_zeroes, ecX1_zeroes, bsX1_zeroes, 2, (some .int)),
  (fdX2_clear, ecX2_clear, bsX2_clear, 1, none),
  (fdX2_cycle, ecX2_cycle, bsX2_cycle, 1, none),
  (fdX2_storeControl, ecX2_storeControl, bsX2_storeControl, 2, (some .int)),
  (fdX2_storeOther, ecX2_storeOther, bsX2_storeOther, 3, none),
  (fdX3_changePage, ecX3_changePage, bsX3_changePage, 3, (some .int)),
  (fdX3_clear, ecX3_clear, bsX3_clear, 1, none),
  (fdX3_command, ecX3_command, bsX3_command, 1, (some .int)),
  (fdX3_cycle, ecX3_cycle, bsX3_cycle, 1, none),
  (fdX3_endCommand, ecX3_endCommand, bsX3_endCommand, 1, none),
  (fdX3_fillBuffer, ecX3_fillBuffer, bsX3_fillBuffer, 3, none),
  (fdX3_hasWord, ecX3_hasWord, bsX3_hasWord, 2, (some .boolean)),
  (fdX3_isHidden, ecX3_isHidden, bsX3_isHidden, 3, (some .boolean)),
  (fdX3_program, ecX3_program, bsX3_program, 4, (some .int)),
  (fdX3_seen, ecX3_seen, bsX3_seen, 2, (some .int)),
  (fdX3_seenByte, ecX3_seenByte, bsX3_seenByte, 3, (some .int)),
  (fdX3_storeControl, ecX3_storeControl, bsX3_storeControl, 2, none),
  (fdX3_writePage, ecX3_writePage, bsX3_writePage, 2, none),
  (fdX4_clear, ecX4_clear, bsX4_clear, 1, none),
  (fdX4_comeOn, ecX4_comeOn, bsX4_comeOn, 1, none),
  (fdX4_cycle, ecX4_cycle, bsX4_cycle, 1, none),
  (fdX4_firstReceived, ecX4_firstReceived, bsX4_firstReceived, 1, (some .int)),
  (fdX4_frame, ecX4_frame, bsX4_frame, 1, (some .int)),
  (fdX4_queue, ecX4_queue, bsX4_queue, 2, (some .int)),
  (fdX4_sendOn, ecX4_sendOn, bsX4_sendOn, 1, none),
  (fdX4_storeData, ecX4_storeData, bsX4_storeData, 2, none),
  (fdX4_storeParts, ecX4_storeParts, bsX4_storeParts, 2, none),
  (fdX4_storeState, ecX4_storeState, bsX4_storeState, 2, none),
  (fdX4_take, ecX4_take, bsX4_take, 1, (some .int)),
  (fdX5_clear, ecX5_clear, bsX5_clear, 2, none),
  (fdX5_cycle, ecX5_cycle, bsX5_cycle, 1, (some .boolean)),
  (fdX5_load, ecX5_load, bsX5_load, 2, (some .int)),
  (fdX5_moveStack, ecX5_moveStack, bsX5_moveStack, 2, none),
  (fdX5_pop, ecX5_pop, bsX5_pop, 1, (some .int)),
  (fdX5_push, ecX5_push, bsX5_push, 2, none),
  (fdX5_stackPointer, ecX5_stackPointer, bsX5_stackPointer, 1, (some .int)),
  (fdX5_store, ecX5_store, bsX5_store, 3, none),
  (fdX5_storeVectorControl, ecX5_storeVectorControl, bsX5_storeVectorControl, 2, none),
  (fdX6_cycle, ecX6_cycle, bsX6_cycle, 1, none),
  (fdX6_tick, ecX6_tick, bsX6_tick, 1, none),
  (fdX6_ticks, ecX6_ticks, bsX6_ticks, 2, (some .boolean)),
  (fdX7_clear, ecX7_clear, bsX7_clear, 1, none),
  (fdX7_cycle, ecX7_cycle, bsX7_cycle, 1, (some .boolean)),
  (fdX7_limit, ecX7_limit, bsX7_limit, 1, (some .int)),
  (fdX7_storeControl, ecX7_storeControl, bsX7_storeControl, 2, none),
  (fdX8_about, ecX8_about, bsX8_about, 2, (some .int)),
  (fdX8_data, ecX8_data, bsX8_data, 2, (some .int)),
  (fdX8_eeprom, ecX8_eeprom, bsX8_eeprom, 2, (some .int)),
  (fdX8_fuses, ecX8_fuses, bsX8_fuses, 2, (some .int)),
  (fdX8_host, ecX8_host, bsX8_host, 2, (some .int)),
  (fdX8_inFlash, ecX8_inFlash, bsX8_inFlash, 1, (some .boolean)),
  (fdX8_letPass, ecX8_letPass, bsX8_letPass, 2, (some .int)),
  (fdX8_oneStep, ecX8_oneStep, bsX8_oneStep, 1, (some .int)),
  (fdX8_pins, ecX8_pins, bsX8_pins, 2, (some .int)),
  (fdX8_power, ecX8_power, bsX8_power, 2, (some .boolean)),
  (fdX8_reset, ecX8_reset, bsX8_reset, 1, none),
  (fdX8_resetBy, ecX8_resetBy, bsX8_resetBy, 2, none),
  (fdX8_sent, ecX8_sent, bsX8_sent, 1, (some .int)),
  (fdX8_step, ecX8_step, bsX8_step, 1, (some .int)),
  (fdX8_word, ecX8_word, bsX8_word, 2, (some .int))]
set_option maxRecDepth 100000 in
theorem prC : ePr shC pgC spsC := ePl_ok (P := pgC) (⟨by rw [← eqJ6_bitCount_0f7a4]; rfl, by rw [← eqJ7_fill_53178]; rfl, by rw [← eqJ7_fill_fda19]; rfl, by rw [← eqJ7_rangeCheck_23922]; rfl, by rw [← eqX0_add]; rfl, by rw [← eqX0_addToPair]; rfl, by rw [← eqX0_carry]; rfl, by rw [← eqX0_count]; rfl, by rw [← eqX0_invert]; rfl, by rw [← eqX0_logic]; rfl, by rw [← eqX0_mark]; rfl, by rw [← eqX0_markPair]; rfl, by rw [← eqX0_markProduct]; rfl, by rw [← eqX0_shiftRight]; rfl, by rw [← eqX0_signed]; rfl, by rw [← eqX0_signs]; rfl, by rw [← eqX0_subtract]; rfl, by rw [← eqX0_subtractFromPair]; rfl, by rw [← eqX0_subtractOn]; rfl, by rw [← eqX1_atDistance]; rfl, by rw [← eqX1_branch]; rfl, by rw [← eqX1_byBit]; rfl, by rw [← eqX1_control]; rfl, by rw [← eqX1_enter]; rfl, by rw [← eqX1_first]; rfl, by rw [← eqX1_goTo]; rfl, by rw [← eqX1_instruction]; rfl, by rw [← eqX1_isControl]; rfl, by rw [← eqX1_jumpBy]; rfl, by rw [← eqX1_kind]; rfl, by rw [← eqX1_loadInto]; rfl, by rw [← eqX1_loadThenMore]; rfl, by rw [← eqX1_logicOfTwo]; rfl, by rw [← eqX1_multiply]; rfl, by rw [← eqX1_multiplyMixed]; rfl, by rw [← eqX1_nextWord]; rfl, by rw [← eqX1_ofOne]; rfl, by rw [← eqX1_ofPair]; rfl, by rw [← eqX1_oneLess]; rfl, by rw [← eqX1_ones]; rfl, by rw [← eqX1_pair]; rfl, by rw [← eqX1_popPc]; rfl, by rw [← eqX1_port]; rfl, by rw [← eqX1_portBit]; rfl, by rw [← eqX1_pushPc]; rfl, by rw [← eqX1_second]; rfl, by rw [← eqX1_setPair]; rfl, by rw [← eqX1_skipIf]; rfl, by rw [← eqX1_statusBit]; rfl, by rw [← eqX1_storeFrom]; rfl, by rw [← eqX1_storeThenMore]; rfl, by rw [← eqX1_toNext]; rfl, by rw [← eqX1_waitingInterrupt]; rfl, by rw [← eqX1_withNumber]; rfl, by rw [← eqX1_zeroes]; rfl, by rw [← eqX2_clear]; rfl, by rw [← eqX2_cycle]; rfl, by rw [← eqX2_storeControl]; rfl, by rw [← eqX2_storeOther]; rfl, by rw [← eqX3_changePage]; rfl, by rw [← eqX3_clear]; rfl, by rw [← eqX3_command]; rfl, by rw [← eqX3_cycle]; rfl, by rw [← eqX3_endCommand]; rfl, by rw [← eqX3_fillBuffer]; rfl, by rw [← eqX3_hasWord]; rfl, by rw [← eqX3_isHidden]; rfl, by rw [← eqX3_program]; rfl, by rw [← eqX3_seen]; rfl, by rw [← eqX3_seenByte]; rfl, by rw [← eqX3_storeControl]; rfl, by rw [← eqX3_writePage]; rfl, by rw [← eqX4_clear]; rfl, by rw [← eqX4_comeOn]; rfl, by rw [← eqX4_cycle]; rfl, by rw [← eqX4_firstReceived]; rfl, by rw [← eqX4_frame]; rfl, by rw [← eqX4_queue]; rfl, by rw [← eqX4_sendOn]; rfl, by rw [← eqX4_storeData]; rfl, by rw [← eqX4_storeParts]; rfl, by rw [← eqX4_storeState]; rfl, by rw [← eqX4_take]; rfl, by rw [← eqX5_clear]; rfl, by rw [← eqX5_cycle]; rfl, by rw [← eqX5_load]; rfl, by rw [← eqX5_moveStack]; rfl, by rw [← eqX5_pop]; rfl, by rw [← eqX5_push]; rfl, by rw [← eqX5_stackPointer]; rfl, by rw [← eqX5_store]; rfl, by rw [← eqX5_storeVectorControl]; rfl, by rw [← eqX6_cycle]; rfl, by rw [← eqX6_tick]; rfl, by rw [← eqX6_ticks]; rfl, by rw [← eqX7_clear]; rfl, by rw [← eqX7_cycle]; rfl, by rw [← eqX7_limit]; rfl, by rw [← eqX7_storeControl]; rfl, by rw [← eqX8_about]; rfl, by rw [← eqX8_data]; rfl, by rw [← eqX8_eeprom]; rfl, by rw [← eqX8_fuses]; rfl, by rw [← eqX8_host]; rfl, by rw [← eqX8_inFlash]; rfl, by rw [← eqX8_letPass]; rfl, by rw [← eqX8_oneStep]; rfl, by rw [← eqX8_pins]; rfl, by rw [← eqX8_power]; rfl, by rw [← eqX8_reset]; rfl, by rw [← eqX8_resetBy]; rfl, by rw [← eqX8_sent]; rfl, by rw [← eqX8_step]; rfl, by rw [← eqX8_word]; rfl, trivial⟩)
