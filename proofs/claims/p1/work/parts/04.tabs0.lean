/-! tables of the methods of the two steady worlds, written by a program out of the printed names and bytes -/
def shC : mSh := [.inl (11, [some 1, some 2, none, none, none, none, none]), .inl (8, [some 9, some 3, some 4, some 5, some 6, some 7, none, none, none]), .inl (4, [some 1, some 3, some 9, some 8, none, none, none, none]), .inl (6, [some 10, some 9, some 11, none, none, none, none, none]), .inl (9, [some 9, none]), .inl (7, [some 9, some 12, none, none, some 13, none, none, none, none, none, none, none, none, none, none]), .inl (5, [some 9, some 14, none, none]), .inl (10, [some 9, none, none]), .inl (3, [some 9]), .inr (0, 1280), .inr (0, 2048), .inr (0, 32), .inr (0, 300), .inr (0, 1000), .inr (0, 256)]
def shM : mSh := [.inl (12, [none, some 1, some 2, some 3, some 4, some 5, none, none, none, none, none, none, none, none, none, none, none, none, none, none, none, none, none, none, none, none, none, none, none, none, none, none, none, some 6, some 7, none, none, none, none]), .inr (0, 2048), .inr (0, 32), .inr (0, 1280), .inr (0, 256), .inr (1, 32), .inr (0, 300), .inr (0, 1000)]
def wC0 : List Jvm.Cond := [.code yX0_signed cX0_signed 1 (some .int),
  .code yX0_signs cX0_signs 4 (some .int),
  .code yX0_mark cX0_mark 3 none,
  .fieldLink RX0 9 "FlashBoard$Alu" "cells" "[I",
  .code yX0_add cX0_add 7 (some .int),
  .methodLink RX0 15 yX0_signed,
  .initialized RX0,
  .static yX0_signed,
  .methodLink RX0 19 yX0_signs,
  .static yX0_signs,
  .methodLink RX0 23 yX0_mark,
  .instanceMethod yX0_mark,
  .selects RX0 yX0_mark yX0_mark,
  .code yX0_markPair cX0_markPair 4 none,
  .constant RX0 39 (32768),
  .code yX0_addToPair cX0_addToPair 5 (some .int),
  .constant RX0 38 (65535),
  .methodLink RX0 40 yX0_markPair,
  .instanceMethod yX0_markPair,
  .selects RX0 yX0_markPair yX0_markPair,
  .code yX0_carry cX0_carry 1 (some .int),
  .code yX0_count cX0_count 5 (some .int),
  .code yX0_logic cX0_logic 2 (some .int),
  .code yX0_invert cX0_invert 2 (some .int),
  .methodLink RX0 35 yX0_logic,
  .instanceMethod yX0_logic,
  .selects RX0 yX0_logic yX0_logic,
  .code yX0_markProduct cX0_markProduct 3 none,
  .code yX0_shiftRight cX0_shiftRight 6 (some .int),
  .code yX0_subtract cX0_subtract 7 (some .int),
  .code yX0_subtractFromPair cX0_subtractFromPair 5 (some .int),
  .code yX0_subtractOn cX0_subtractOn 5 (some .int),
  .methodLink RX0 27 yX0_carry,
  .instanceMethod yX0_carry,
  .selects RX0 yX0_carry yX0_carry,
  .methodLink RX0 31 yX0_subtract,
  .instanceMethod yX0_subtract,
  .selects RX0 yX0_subtract yX0_subtract,
  .code yX1_pair cX1_pair 2 (some .int),
  .fieldLink RX1 26 "FlashBoard$Core" "cells" "[I",
  .code yX1_first cX1_first 1 (some .int),
  .code yX2_storeControl cX2_storeControl 4 (some .int),
  .fieldLink RX2 9 "FlashBoard$Eeprom" "cells" "[I",
  .fieldLink RX2 24 "FlashBoard$Eeprom" "window" "I",
  .fieldLink RX2 15 "FlashBoard$Eeprom" "bytes" "[I",
  .fieldLink RX2 28 "FlashBoard$Eeprom" "writingLeft" "I",
  .code yX2_storeOther cX2_storeOther 3 none,
  .code yX5_storeVectorControl cX5_storeVectorControl 3 none,
  .fieldLink RX5 9 "FlashBoard$Memory" "cells" "[I",
  .fieldLink RX5 61 "FlashBoard$Memory" "vectorWindow" "I",
  .code yX3_storeControl cX3_storeControl 3 none,
  .fieldLink RX3 9 "FlashBoard$Flash" "cells" "[I",
  .fieldLink RX3 47 "FlashBoard$Flash" "busy" "I",
  .fieldLink RX3 44 "FlashBoard$Flash" "window" "I",
  .code yX7_storeControl cX7_storeControl 4 none,
  .fieldLink RX7 9 "FlashBoard$Watchdog" "cells" "[I",
  .fieldLink RX7 19 "FlashBoard$Watchdog" "window" "I",
  .code yX4_storeState cX4_storeState 3 none,
  .fieldLink RX4 9 "FlashBoard$Line" "cells" "[I",
  .code yX4_storeParts cX4_storeParts 2 none,
  .fieldLink RX4 21 "FlashBoard$Line" "byteWaits" "Z",
  .code yX4_storeData cX4_storeData 2 none,
  .fieldLink RX4 41 "FlashBoard$Line" "waitingByte" "I",
  .code yX5_store cX5_store 3 none,
  .fieldLink RX5 90 "FlashBoard$Memory" "delay" "I",
  .fieldLink RX5 41 "FlashBoard$Memory" "eeprom" "LFlashBoard$Eeprom;",
  .fieldLink RX5 20 "FlashBoard$Memory" "flash" "LFlashBoard$Flash;",
  .fieldLink RX5 48 "FlashBoard$Memory" "watchdog" "LFlashBoard$Watchdog;",
  .fieldLink RX5 34 "FlashBoard$Memory" "line" "LFlashBoard$Line;",
  .methodLink RX5 93 yX2_storeControl,
  .initialized RX2,
  .instanceMethod yX2_storeControl,
  .selects RX2 yX2_storeControl yX2_storeControl,
  .methodLink RX5 97 yX2_storeOther,
  .instanceMethod yX2_storeOther,
  .selects RX2 yX2_storeOther yX2_storeOther,
  .methodLink RX5 101 yX5_storeVectorControl,
  .initialized RX5,
  .instanceMethod yX5_storeVectorControl,
  .selects RX5 yX5_storeVectorControl yX5_storeVectorControl,
  .methodLink RX5 105 yX3_storeControl,
  .initialized RX3,
  .instanceMethod yX3_storeControl,
  .selects RX3 yX3_storeControl yX3_storeControl,
  .methodLink RX5 107 yX7_storeControl,
  .initialized RX7,
  .instanceMethod yX7_storeControl,
  .selects RX7 yX7_storeControl yX7_storeControl,
  .methodLink RX5 108 yX4_storeState,
  .initialized RX4,
  .instanceMethod yX4_storeState,
  .selects RX4 yX4_storeState yX4_storeState,
  .methodLink RX5 111 yX4_storeParts,
  .instanceMethod yX4_storeParts,
  .selects RX4 yX4_storeParts yX4_storeParts,
  .methodLink RX5 114 yX4_storeData,
  .instanceMethod yX4_storeData,
  .selects RX4 yX4_storeData yX4_storeData,
  .code yX4_take cX4_take 2 (some .int),
  .fieldLink RX4 32 "FlashBoard$Line" "received" "I",
  .fieldLink RX4 44 "FlashBoard$Line" "firstByte" "I",
  .fieldLink RX4 47 "FlashBoard$Line" "secondByte" "I",
  .code yX5_load cX5_load 3 (some .int),
  .fieldLink RX5 87 "FlashBoard$Memory" "pinLevels" "I",
  .methodLink RX5 83 yX4_take,
  .instanceMethod yX4_take,
  .selects RX4 yX4_take yX4_take,
  .code yX1_atDistance cX1_atDistance 4 (some .int),
  .fieldLink RX1 9 "FlashBoard$Core" "memory" "LFlashBoard$Memory;",
  .constant RX1 162 (65535),
  .methodLink RX1 149 yX1_pair,
  .initialized RX1,
  .instanceMethod yX1_pair,
  .selects RX1 yX1_pair yX1_pair,
  .methodLink RX1 113 yX1_first,
  .static yX1_first,
  .methodLink RX1 179 yX5_store,
  .instanceMethod yX5_store,
  .selects RX5 yX5_store yX5_store,
  .methodLink RX1 182 yX5_load,
  .instanceMethod yX5_load,
  .selects RX5 yX5_load yX5_load,
  .code yX1_branch cX1_branch 5 (some .int),
  .fieldLink RX1 36 "FlashBoard$Core" "pc" "I",
  .code yX3_seen cX3_seen 3 (some .int),
  .fieldLink RX3 15 "FlashBoard$Flash" "words" "[I",
  .constant RX3 28 (65535),
  .code yX1_nextWord cX1_nextWord 2 (some .int),
  .fieldLink RX1 21 "FlashBoard$Core" "flash" "LFlashBoard$Flash;",
  .methodLink RX1 126 yX3_seen,
  .instanceMethod yX3_seen,
  .selects RX3 yX3_seen yX3_seen,
  .code yX1_skipIf cX1_skipIf 4 (some .int),
  .constant RX1 138 (64527),
  .constant RX1 139 (36864),
  .constant RX1 140 (65036),
  .constant RX1 141 (37900),
  .methodLink RX1 50 yX1_nextWord,
  .instanceMethod yX1_nextWord,
  .selects RX1 yX1_nextWord yX1_nextWord,
  .code yX1_byBit cX1_byBit 6 (some .int),
  .methodLink RX1 231 yX1_branch,
  .instanceMethod yX1_branch,
  .selects RX1 yX1_branch yX1_branch,
  .methodLink RX1 166 yX1_skipIf,
  .instanceMethod yX1_skipIf,
  .selects RX1 yX1_skipIf yX1_skipIf,
  .code yX1_statusBit cX1_statusBit 3 (some .int),
  .code yX5_stackPointer cX5_stackPointer 1 (some .int),
  .code yX5_moveStack cX5_moveStack 2 none,
  .code yX5_pop cX5_pop 1 (some .int),
  .methodLink RX5 117 yX5_stackPointer,
  .instanceMethod yX5_stackPointer,
  .selects RX5 yX5_stackPointer yX5_stackPointer,
  .methodLink RX5 123 yX5_moveStack,
  .instanceMethod yX5_moveStack,
  .selects RX5 yX5_moveStack yX5_moveStack,
  .methodLink RX5 126 yX5_load,
  .code yX1_popPc cX1_popPc 3 none,
  .methodLink RX1 135 yX5_pop,
  .instanceMethod yX5_pop,
  .selects RX5 yX5_pop yX5_pop,
  .code yX3_command cX3_command 1 (some .int),
  .code yX3_endCommand cX3_endCommand 1 none,
  .code yX3_isHidden cX3_isHidden 3 (some .boolean),
  .fieldLink RX3 21 "FlashBoard$Flash" "locks" "I",
  .code yX3_seenByte cX3_seenByte 4 (some .int),
  .fieldLink RX3 25 "FlashBoard$Flash" "fuse" "I",
  .methodLink RX3 56 yX3_command,
  .instanceMethod yX3_command,
  .selects RX3 yX3_command yX3_command,
  .methodLink RX3 53 yX3_endCommand,
  .instanceMethod yX3_endCommand,
  .selects RX3 yX3_endCommand yX3_endCommand,
  .methodLink RX3 60 yX3_isHidden,
  .instanceMethod yX3_isHidden,
  .selects RX3 yX3_isHidden yX3_isHidden,
  .methodLink RX3 64 yX3_seen,
  .code yJ7_rangeCheck_23922 cJ7_rangeCheck_23922 3 none,
  .code yJ7_fill_fda19 cJ7_fill_fda19 5 none,
  .methodLink RJ7 13 yJ7_rangeCheck_23922,
  .initialized RJ7,
  .static yJ7_rangeCheck_23922,
  .code yX3_hasWord cX3_hasWord 2 (some .boolean),
  .fieldLink RX3 50 "FlashBoard$Flash" "filled" "I",
  .code yX3_writePage cX3_writePage 3 none,
  .fieldLink RX3 18 "FlashBoard$Flash" "buffer" "[I",
  .methodLink RX3 76 yX3_hasWord,
  .instanceMethod yX3_hasWord,
  .selects RX3 yX3_hasWord yX3_hasWord,
  .code yX3_changePage cX3_changePage 5 (some .int),
  .methodLink RX3 80 yJ7_fill_fda19,
  .static yJ7_fill_fda19,
  .methodLink RX3 83 yX3_writePage,
  .instanceMethod yX3_writePage,
  .selects RX3 yX3_writePage yX3_writePage,
  .code yX3_fillBuffer cX3_fillBuffer 3 none,
  .code yX3_program cX3_program 5 (some .int),
  .methodLink RX3 68 yX3_changePage,
  .instanceMethod yX3_changePage,
  .selects RX3 yX3_changePage yX3_changePage,
  .methodLink RX3 72 yX3_fillBuffer,
  .instanceMethod yX3_fillBuffer,
  .selects RX3 yX3_fillBuffer yX3_fillBuffer,
  .code yX5_push cX5_push 3 none,
  .methodLink RX5 120 yX5_store,
  .code yX1_pushPc cX1_pushPc 2 none,
  .methodLink RX1 131 yX5_push,
  .instanceMethod yX5_push,
  .selects RX5 yX5_push yX5_push,
  .code yX1_control cX1_control 2 (some .int),
  .fieldLink RX1 40 "FlashBoard$Core" "sleeps" "Z",
  .fieldLink RX1 214 "FlashBoard$Memory" "watchdog" "LFlashBoard$Watchdog;",
  .fieldLink RX1 218 "FlashBoard$Watchdog" "count" "I",
  .fieldLink RX1 47 "FlashBoard$Core" "at" "I",
  .constant RX1 206 (65295),
  .constant RX1 207 (37896),
  .methodLink RX1 208 yX1_statusBit,
  .instanceMethod yX1_statusBit,
  .selects RX1 yX1_statusBit yX1_statusBit,
  .methodLink RX1 211 yX1_popPc,
  .instanceMethod yX1_popPc,
  .selects RX1 yX1_popPc yX1_popPc,
  .methodLink RX1 191 yX3_seenByte,
  .instanceMethod yX3_seenByte,
  .selects RX3 yX3_seenByte yX3_seenByte,
  .methodLink RX1 222 yX3_program,
  .instanceMethod yX3_program,
  .selects RX3 yX3_program yX3_program,
  .methodLink RX1 44 yX1_pushPc,
  .instanceMethod yX1_pushPc,
  .selects RX1 yX1_pushPc yX1_pushPc,
  .code yX1_enter cX1_enter 2 none,
  .code yX1_goTo cX1_goTo 2 none,
  .code yX1_kind cX1_kind 2 (some .int),
  .code yX1_second cX1_second 1 (some .int),
  .code yX1_setPair cX1_setPair 3 none,
  .code yX1_multiply cX1_multiply 4 (some .int),
  .fieldLink RX1 32 "FlashBoard$Core" "alu" "LFlashBoard$Alu;",
  .methodLink RX1 152 yX1_setPair,
  .instanceMethod yX1_setPair,
  .selects RX1 yX1_setPair yX1_setPair,
  .methodLink RX1 163 yX0_markProduct,
  .instanceMethod yX0_markProduct,
  .selects RX0 yX0_markProduct yX0_markProduct,
  .code yX1_multiplyMixed cX1_multiplyMixed 4 (some .int),
  .methodLink RX1 156 yX0_signed,
  .methodLink RX1 119 yX1_multiply,
  .instanceMethod yX1_multiply,
  .selects RX1 yX1_multiply yX1_multiply,
  .code yX1_zeroes cX1_zeroes 6 (some .int),
  .methodLink RX1 116 yX1_second,
  .static yX1_second,
  .methodLink RX1 142 yX0_subtractOn,
  .instanceMethod yX0_subtractOn,
  .selects RX0 yX0_subtractOn yX0_subtractOn,
  .methodLink RX1 145 yX0_add,
  .instanceMethod yX0_add,
  .selects RX0 yX0_add yX0_add,
  .methodLink RX1 159 yX1_multiplyMixed,
  .instanceMethod yX1_multiplyMixed,
  .selects RX1 yX1_multiplyMixed yX1_multiplyMixed,
  .code yX1_ones cX1_ones 5 (some .int),
  .methodLink RX1 170 yX0_subtract,
  .methodLink RX1 173 yX0_carry,
  .code yX1_logicOfTwo cX1_logicOfTwo 4 (some .int),
  .methodLink RX1 176 yX0_logic,
  .code yX1_port cX1_port 3 (some .int),
  .code yX1_jumpBy cX1_jumpBy 3 (some .int),
  .code yX1_loadThenMore cX1_loadThenMore 3 (some .int),
  .code yX1_oneLess cX1_oneLess 2 (some .int),
  .code yX1_loadInto cX1_loadInto 4 (some .int),
  .methodLink RX1 185 yX1_loadThenMore,
  .instanceMethod yX1_loadThenMore,
  .selects RX1 yX1_loadThenMore yX1_loadThenMore,
  .methodLink RX1 188 yX1_oneLess,
  .instanceMethod yX1_oneLess,
  .selects RX1 yX1_oneLess yX1_oneLess,
  .code yX1_storeThenMore cX1_storeThenMore 3 none,
  .code yX1_storeFrom cX1_storeFrom 3 (some .int),
  .methodLink RX1 194 yX1_storeThenMore,
  .instanceMethod yX1_storeThenMore,
  .selects RX1 yX1_storeThenMore yX1_storeThenMore,
  .code yX1_toNext cX1_toNext 4 (some .int),
  .code yX1_isControl cX1_isControl 1 (some .boolean),
  .code yX1_ofOne cX1_ofOne 4 (some .int),
  .methodLink RX1 197 yX0_invert,
  .instanceMethod yX0_invert,
  .selects RX0 yX0_invert yX0_invert,
  .methodLink RX1 200 yX0_count,
  .instanceMethod yX0_count,
  .selects RX0 yX0_count yX0_count,
  .methodLink RX1 203 yX0_shiftRight,
  .instanceMethod yX0_shiftRight,
  .selects RX0 yX0_shiftRight yX0_shiftRight,
  .code yX1_ofPair cX1_ofPair 5 (some .int),
  .methodLink RX1 225 yX0_addToPair,
  .instanceMethod yX0_addToPair,
  .selects RX0 yX0_addToPair yX0_addToPair,
  .methodLink RX1 228 yX0_subtractFromPair,
  .instanceMethod yX0_subtractFromPair,
  .selects RX0 yX0_subtractFromPair yX0_subtractFromPair,
  .code yX1_portBit cX1_portBit 7 (some .int),
  .code yX1_withNumber cX1_withNumber 5 (some .int),
  .code yX1_instruction cX1_instruction 2 (some .int),
  .fieldLink RX1 56 "FlashBoard$Core" "heldBack" "Z",
  .fieldLink RX1 59 "FlashBoard$Memory" "delay" "I",
  .constant RX1 54 (38008),
  .constant RX1 55 (38168),
  .methodLink RX1 62 yX1_kind,
  .static yX1_kind,
  .methodLink RX1 66 yX1_zeroes,
  .instanceMethod yX1_zeroes,
  .selects RX1 yX1_zeroes yX1_zeroes,
  .methodLink RX1 69 yX1_ones,
  .instanceMethod yX1_ones,
  .selects RX1 yX1_ones yX1_ones,
  .methodLink RX1 72 yX1_logicOfTwo,
  .instanceMethod yX1_logicOfTwo,
  .selects RX1 yX1_logicOfTwo yX1_logicOfTwo,
  .methodLink RX1 75 yX1_atDistance,
  .instanceMethod yX1_atDistance,
  .selects RX1 yX1_atDistance yX1_atDistance,
  .methodLink RX1 78 yX1_port,
  .instanceMethod yX1_port,
  .selects RX1 yX1_port yX1_port,
  .methodLink RX1 81 yX1_jumpBy,
  .instanceMethod yX1_jumpBy,
  .selects RX1 yX1_jumpBy yX1_jumpBy,
  .methodLink RX1 85 yX1_byBit,
  .instanceMethod yX1_byBit,
  .selects RX1 yX1_byBit yX1_byBit,
  .methodLink RX1 88 yX1_loadInto,
  .instanceMethod yX1_loadInto,
  .selects RX1 yX1_loadInto yX1_loadInto,
  .methodLink RX1 91 yX1_storeFrom,
  .instanceMethod yX1_storeFrom,
  .selects RX1 yX1_storeFrom yX1_storeFrom,
  .methodLink RX1 94 yX1_toNext,
  .instanceMethod yX1_toNext,
  .selects RX1 yX1_toNext yX1_toNext,
  .methodLink RX1 97 yX1_isControl,
  .static yX1_isControl,
  .methodLink RX1 101 yX1_control,
  .instanceMethod yX1_control,
  .selects RX1 yX1_control yX1_control,
  .methodLink RX1 104 yX1_ofOne,
  .instanceMethod yX1_ofOne,
  .selects RX1 yX1_ofOne yX1_ofOne,
  .methodLink RX1 107 yX1_ofPair,
  .instanceMethod yX1_ofPair,
  .selects RX1 yX1_ofPair yX1_ofPair,
  .methodLink RX1 110 yX1_portBit,
  .instanceMethod yX1_portBit,
  .selects RX1 yX1_portBit yX1_portBit,
  .methodLink RX1 123 yX1_withNumber,
  .instanceMethod yX1_withNumber,
  .selects RX1 yX1_withNumber yX1_withNumber,
  .code yX1_waitingInterrupt cX1_waitingInterrupt 3 (some .int),
  .code yX2_clear cX2_clear 1 none,
  .code yX2_cycle cX2_cycle 1 none,
  .code yX3_burnPair cX3_burnPair 4 (some .int),
  .code yX3_clear cX3_clear 1 none,
  .code yX3_cycle cX3_cycle 1 none,
  .code yX4_clear cX4_clear 1 none,
  .fieldLink RX4 25 "FlashBoard$Line" "sendingLeft" "I",
  .fieldLink RX4 29 "FlashBoard$Line" "comingLeft" "I",
  .code yX4_comeOn cX4_comeOn 1 none,
  .fieldLink RX4 63 "FlashBoard$Line" "comingByte" "I",
  .code yX4_sendOn cX4_sendOn 1 none,
  .fieldLink RX4 66 "FlashBoard$Line" "arrived" "I",
  .fieldLink RX4 18 "FlashBoard$Line" "kept" "[I",
  .fieldLink RX4 53 "FlashBoard$Line" "sendingByte" "I",
  .code yX4_frame cX4_frame 2 (some .int),
  .code yX4_cycle cX4_cycle 1 none,
  .fieldLink RX4 35 "FlashBoard$Line" "queued" "I",
  .fieldLink RX4 15 "FlashBoard$Line" "hostQueue" "[I",
  .fieldLink RX4 38 "FlashBoard$Line" "hostHead" "I",
  .methodLink RX4 50 yX4_sendOn,
  .instanceMethod yX4_sendOn,
  .selects RX4 yX4_sendOn yX4_sendOn,
  .methodLink RX4 56 yX4_frame,
  .instanceMethod yX4_frame,
  .selects RX4 yX4_frame yX4_frame,
  .methodLink RX4 60 yX4_comeOn,
  .instanceMethod yX4_comeOn,
  .selects RX4 yX4_comeOn yX4_comeOn,
  .code yX4_firstReceived cX4_firstReceived 1 (some .int),
  .code yX4_queue cX4_queue 2 (some .int),
  .code yJ7_fill_53178 cJ7_fill_53178 4 none,
  .code yX7_clear cX7_clear 1 none,
  .fieldLink RX7 15 "FlashBoard$Watchdog" "count" "I",
  .code yX5_clear cX5_clear 3 none,
  .fieldLink RX5 27 "FlashBoard$Memory" "timer" "LFlashBoard$Timer;",
  .fieldLink RX5 65 "FlashBoard$Timer" "prescaler" "I",
  .methodLink RX5 52 yJ7_fill_53178,
  .static yJ7_fill_53178,
  .methodLink RX5 58 yJ7_fill_fda19,
  .methodLink RX5 68 yX3_clear,
  .instanceMethod yX3_clear,
  .selects RX3 yX3_clear yX3_clear,
  .methodLink RX5 71 yX4_clear,
  .instanceMethod yX4_clear,
  .selects RX4 yX4_clear yX4_clear,
  .methodLink RX5 72 yX2_clear,
  .instanceMethod yX2_clear,
  .selects RX2 yX2_clear yX2_clear,
  .methodLink RX5 73 yX7_clear,
  .instanceMethod yX7_clear,
  .selects RX7 yX7_clear yX7_clear,
  .code yX6_ticks cX6_ticks 2 (some .boolean),
  .fieldLink RX6 15 "FlashBoard$Timer" "prescaler" "I",
  .code yX6_tick cX6_tick 2 none,
  .fieldLink RX6 9 "FlashBoard$Timer" "cells" "[I",
  .code yX6_cycle cX6_cycle 2 none,
  .methodLink RX6 19 yX6_ticks,
  .initialized RX6,
  .instanceMethod yX6_ticks,
  .selects RX6 yX6_ticks yX6_ticks,
  .methodLink RX6 23 yX6_tick,
  .instanceMethod yX6_tick,
  .selects RX6 yX6_tick yX6_tick,
  .code yX7_limit cX7_limit 2 (some .int),
  .code yX7_cycle cX7_cycle 2 (some .boolean),
  .methodLink RX7 22 yX7_limit,
  .static yX7_limit,
  .code yX5_cycle cX5_cycle 1 (some .boolean),
  .methodLink RX5 74 yX3_cycle,
  .instanceMethod yX3_cycle,
  .selects RX3 yX3_cycle yX3_cycle,
  .methodLink RX5 77 yX6_cycle,
  .instanceMethod yX6_cycle,
  .selects RX6 yX6_cycle yX6_cycle,
  .methodLink RX5 78 yX4_cycle,
  .instanceMethod yX4_cycle,
  .selects RX4 yX4_cycle yX4_cycle,
  .methodLink RX5 79 yX2_cycle,
  .instanceMethod yX2_cycle,
  .selects RX2 yX2_cycle yX2_cycle,
  .methodLink RX5 80 yX7_cycle,
  .instanceMethod yX7_cycle,
  .selects RX7 yX7_cycle yX7_cycle,
  .code yJ6_bitCount_0f7a4 cJ6_bitCount_0f7a4 1 (some .int),
  .constant RJ6 265 (1431655765),
  .constant RJ6 266 (858993459),
  .constant RJ6 267 (252645135),
  .code yX8_about cX8_about 2 (some .int),
  .fieldLink RX8 21 "FlashBoard" "core" "LFlashBoard$Core;",
  .fieldLink RX8 131 "FlashBoard$Core" "pc" "I",
  .fieldLink RX8 10 "FlashBoard" "memory" "LFlashBoard$Memory;",
  .fieldLink RX8 137 "FlashBoard$Core" "sleeps" "Z",
  .fieldLink RX8 140 "FlashBoard" "cycles" "I",
  .fieldLink RX8 143 "FlashBoard" "steps" "I",
  .fieldLink RX8 146 "FlashBoard" "entries" "I",
  .fieldLink RX8 149 "FlashBoard" "watchdogResets" "I",
  .fieldLink RX8 79 "FlashBoard$Memory" "flash" "LFlashBoard$Flash;",
  .fieldLink RX8 152 "FlashBoard$Flash" "busy" "I",
  .fieldLink RX8 155 "FlashBoard$Flash" "filled" "I",
  .fieldLink RX8 163 "FlashBoard$Memory" "watchdog" "LFlashBoard$Watchdog;",
  .fieldLink RX8 167 "FlashBoard$Watchdog" "count" "I",
  .fieldLink RX8 172 "FlashBoard$Memory" "timer" "LFlashBoard$Timer;",
  .fieldLink RX8 176 "FlashBoard$Timer" "prescaler" "I",
  .fieldLink RX8 47 "FlashBoard$Memory" "line" "LFlashBoard$Line;",
  .fieldLink RX8 181 "FlashBoard$Line" "queued" "I",
  .fieldLink RX8 184 "FlashBoard$Line" "received" "I",
  .fieldLink RX8 187 "FlashBoard$Line" "sendingLeft" "I",
  .fieldLink RX8 190 "FlashBoard$Line" "comingLeft" "I",
  .fieldLink RX8 108 "FlashBoard$Memory" "eeprom" "LFlashBoard$Eeprom;",
  .fieldLink RX8 193 "FlashBoard$Eeprom" "writingLeft" "I",
  .fieldLink RX8 196 "FlashBoard$Flash" "window" "I",
  .fieldLink RX8 199 "FlashBoard$Watchdog" "window" "I",
  .fieldLink RX8 200 "FlashBoard$Memory" "vectorWindow" "I",
  .fieldLink RX8 203 "FlashBoard$Eeprom" "window" "I",
  .fieldLink RX8 25 "FlashBoard" "powered" "Z",
  .methodLink RX8 134 yX5_stackPointer,
  .methodLink RX8 158 yJ6_bitCount_0f7a4,
  .initialized RJ6,
  .static yJ6_bitCount_0f7a4,
  .methodLink RX8 204 yX1_waitingInterrupt,
  .instanceMethod yX1_waitingInterrupt,
  .selects RX1 yX1_waitingInterrupt yX1_waitingInterrupt,
  .code yX8_inFlash cX8_inFlash 1 (some .boolean),
  .code yX8_burn cX8_burn 8 (some .int),
  .methodLink RX8 70 yX8_inFlash,
  .initialized RX8,
  .static yX8_inFlash,
  .methodLink RX8 83 yX3_burnPair,
  .instanceMethod yX3_burnPair,
  .selects RX3 yX3_burnPair yX3_burnPair,
  .code yX8_canBePut cX8_canBePut 1 (some .boolean),
  .code yX8_data cX8_data 2 (some .int),
  .methodLink RX8 94 yX4_firstReceived,
  .instanceMethod yX4_firstReceived,
  .selects RX4 yX4_firstReceived yX4_firstReceived,
  .methodLink RX8 97 yX5_load,
  .code yX8_eeprom cX8_eeprom 2 (some .int),
  .fieldLink RX8 112 "FlashBoard$Eeprom" "bytes" "[I",
  .code yX8_fuses cX8_fuses 4 (some .int),
  .fieldLink RX8 122 "FlashBoard$Flash" "fuse" "I",
  .fieldLink RX8 125 "FlashBoard$Flash" "locks" "I",
  .code yX8_got cX8_got 4 (some .int),
  .fieldLink RX8 57 "FlashBoard$Line" "arrived" "I",
  .fieldLink RX8 66 "FlashBoard$Line" "kept" "[I",
  .code yX8_host cX8_host 2 (some .int),
  .methodLink RX8 51 yX4_queue,
  .instanceMethod yX4_queue,
  .selects RX4 yX4_queue yX4_queue,
  .code yX8_resetBy cX8_resetBy 2 none,
  .methodLink RX8 228 yX5_clear,
  .instanceMethod yX5_clear,
  .selects RX5 yX5_clear yX5_clear,
  .methodLink RX8 128 yX1_goTo,
  .instanceMethod yX1_goTo,
  .selects RX1 yX1_goTo yX1_goTo,
  .code yX8_letPass cX8_letPass 3 (some .int),
  .methodLink RX8 224 yX5_cycle,
  .instanceMethod yX5_cycle,
  .selects RX5 yX5_cycle yX5_cycle,
  .methodLink RX8 29 yX8_resetBy,
  .instanceMethod yX8_resetBy,
  .selects RX8 yX8_resetBy yX8_resetBy,
  .code yX8_oneStep cX8_oneStep 3 (some .int),
  .fieldLink RX8 212 "FlashBoard$Core" "heldBack" "Z",
  .fieldLink RX8 221 "FlashBoard$Memory" "delay" "I",
  .methodLink RX8 209 yX8_letPass,
  .instanceMethod yX8_letPass,
  .selects RX8 yX8_letPass yX8_letPass,
  .methodLink RX8 215 yX1_enter,
  .instanceMethod yX1_enter,
  .selects RX1 yX1_enter yX1_enter,
  .methodLink RX8 218 yX1_instruction,
  .instanceMethod yX1_instruction,
  .selects RX1 yX1_instruction yX1_instruction,
  .code yX8_pass cX8_pass 4 (some .int),
  .constant RX8 44 (200000),
  .methodLink RX8 33 yX8_oneStep,
  .instanceMethod yX8_oneStep,
  .selects RX8 yX8_oneStep yX8_oneStep,
  .code yX8_pins cX8_pins 3 (some .int),
  .fieldLink RX8 119 "FlashBoard$Memory" "pinLevels" "I",
  .code yX8_power cX8_power 3 (some .boolean),
  .code yX8_put cX8_put 3 none,
  .fieldLink RX8 105 "FlashBoard$Memory" "cells" "[I",
  .methodLink RX8 100 yX8_canBePut,
  .static yX8_canBePut,
  .code yX8_reset cX8_reset 1 none,
  .code yX8_run cX8_run 4 (some .int),
  .code yX8_sent cX8_sent 1 (some .int),
  .code yX8_start cX8_start 2 none,
  .code yX8_step cX8_step 1 (some .int),
  .code yX8_word cX8_word 2 (some .int),
  .fieldLink RX8 89 "FlashBoard$Flash" "words" "[I"]
def wC1 : List Jvm.Cond := u_ws RX0 TX0 1 ++ u_ws RX1 TX1 8 ++ u_ws RX2 TX2 4 ++ u_ws RX3 TX3 8 ++ u_ws RX4 TX4 15 ++ u_ws RX5 TX5 9 ++ u_ws RX6 TX6 2 ++ u_ws RX7 TX7 3 ++ u_ws RX8 TX8 7
abbrev wC : List Jvm.Cond := wC1 ++ wC0
set_option maxRecDepth 100000 in
theorem goodC : wC.all goodWord = true := by decide +kernel
theorem inC_X0 : ∀ w ∈ u_ws RX0 TX0 1, w ∈ wC := by decide +kernel
theorem inC_X1 : ∀ w ∈ u_ws RX1 TX1 8, w ∈ wC := by decide +kernel
theorem inC_X2 : ∀ w ∈ u_ws RX2 TX2 4, w ∈ wC := by decide +kernel
theorem inC_X3 : ∀ w ∈ u_ws RX3 TX3 8, w ∈ wC := by decide +kernel
theorem inC_X4 : ∀ w ∈ u_ws RX4 TX4 15, w ∈ wC := by decide +kernel
theorem inC_X5 : ∀ w ∈ u_ws RX5 TX5 9, w ∈ wC := by decide +kernel
theorem inC_X6 : ∀ w ∈ u_ws RX6 TX6 2, w ∈ wC := by decide +kernel
theorem inC_X7 : ∀ w ∈ u_ws RX7 TX7 3, w ∈ wC := by decide +kernel
theorem inC_X8 : ∀ w ∈ u_ws RX8 TX8 7, w ∈ wC := by decide +kernel
def wM0 : List Jvm.Cond := [.code yX9_right cX9_right 2 (some .boolean),
  .fieldLink RX9 74 "FlashBoardModel" "thrown" "I",
  .code yX9_pointer cX9_pointer 2 (some .int),
  .fieldLink RX9 16 "FlashBoardModel" "data" "[I",
  .code yX9_flag cX9_flag 2 (some .boolean),
  .code yX9_interrupt cX9_interrupt 4 (some .int),
  .code yX9_awaited cX9_awaited 1 (some .int),
  .methodLink RX9 163 yX9_flag,
  .initialized RX9,
  .instanceMethod yX9_flag,
  .selects RX9 yX9_flag yX9_flag,
  .methodLink RX9 166 yX9_interrupt,
  .instanceMethod yX9_interrupt,
  .selects RX9 yX9_interrupt yX9_interrupt,
  .code yX9_about cX9_about 4 (some .int),
  .fieldLink RX9 77 "FlashBoardModel" "pc" "I",
  .fieldLink RX9 80 "FlashBoardModel" "sleeps" "Z",
  .fieldLink RX9 179 "FlashBoardModel" "cycles" "I",
  .fieldLink RX9 213 "FlashBoardModel" "steps" "I",
  .fieldLink RX9 176 "FlashBoardModel" "entries" "I",
  .fieldLink RX9 210 "FlashBoardModel" "resets" "I",
  .fieldLink RX9 86 "FlashBoardModel" "busy" "I",
  .fieldLink RX9 22 "FlashBoardModel" "isLaid" "[Z",
  .fieldLink RX9 92 "FlashBoardModel" "count" "I",
  .fieldLink RX9 89 "FlashBoardModel" "prescaler" "I",
  .fieldLink RX9 204 "FlashBoardModel" "hosts" "I",
  .fieldLink RX9 119 "FlashBoardModel" "received" "I",
  .fieldLink RX9 113 "FlashBoardModel" "sendsLeft" "I",
  .fieldLink RX9 116 "FlashBoardModel" "comesLeft" "I",
  .fieldLink RX9 95 "FlashBoardModel" "romLeft" "I",
  .fieldLink RX9 98 "FlashBoardModel" "window57" "I",
  .fieldLink RX9 101 "FlashBoardModel" "window60" "I",
  .fieldLink RX9 104 "FlashBoardModel" "window55" "I",
  .fieldLink RX9 107 "FlashBoardModel" "window3f" "I",
  .fieldLink RX9 33 "FlashBoardModel" "isOn" "Z",
  .methodLink RX9 359 yX9_right,
  .instanceMethod yX9_right,
  .selects RX9 yX9_right yX9_right,
  .methodLink RX9 231 yX9_pointer,
  .instanceMethod yX9_pointer,
  .selects RX9 yX9_pointer yX9_pointer,
  .methodLink RX9 216 yX9_awaited,
  .instanceMethod yX9_awaited,
  .selects RX9 yX9_awaited yX9_awaited,
  .code yX9_signed cX9_signed 1 (some .int),
  .code yX9_setFlag cX9_setFlag 3 none,
  .code yX9_zero cX9_zero 2 none,
  .methodLink RX9 172 yX9_setFlag,
  .instanceMethod yX9_setFlag,
  .selects RX9 yX9_setFlag yX9_setFlag,
  .code yX9_add cX9_add 6 (some .int),
  .methodLink RX9 250 yX9_signed,
  .static yX9_signed,
  .methodLink RX9 253 yX9_zero,
  .instanceMethod yX9_zero,
  .selects RX9 yX9_zero yX9_zero,
  .code yX9_code cX9_code 3 (some .int),
  .fieldLink RX9 7 "FlashBoardModel" "flash" "[I",
  .constant RX9 43 (65535),
  .code yX9_next cX9_next 2 (some .int),
  .methodLink RX9 228 yX9_code,
  .instanceMethod yX9_code,
  .selects RX9 yX9_code yX9_code,
  .code yX9_skips cX9_skips 2 (some .int),
  .constant RX9 308 (64527),
  .constant RX9 309 (36864),
  .constant RX9 310 (65036),
  .constant RX9 311 (37900),
  .methodLink RX9 259 yX9_next,
  .instanceMethod yX9_next,
  .selects RX9 yX9_next yX9_next,
  .code yX9_bits cX9_bits 5 (some .int),
  .methodLink RX9 299 yX9_skips,
  .instanceMethod yX9_skips,
  .selects RX9 yX9_skips yX9_skips,
  .code yX9_burnt cX9_burnt 5 (some .int),
  .code yX9_burn cX9_burn 8 (some .int),
  .methodLink RX9 364 yX9_burnt,
  .instanceMethod yX9_burnt,
  .selects RX9 yX9_burnt yX9_burnt,
  .code yX9_carry cX9_carry 1 (some .int),
  .code yX9_clearBuffer cX9_clearBuffer 2 none,
  .code yX9_seen cX9_seen 2 (some .int),
  .fieldLink RX9 128 "FlashBoardModel" "first" "I",
  .fieldLink RX9 131 "FlashBoardModel" "pins" "I",
  .code yX9_data cX9_data 2 (some .int),
  .methodLink RX9 134 yX9_seen,
  .instanceMethod yX9_seen,
  .selects RX9 yX9_seen yX9_seen,
  .code yX9_holds cX9_holds 1 (some .boolean),
  .code yX9_storeRom cX9_storeRom 3 none,
  .fieldLink RX9 19 "FlashBoardModel" "rom" "[I",
  .fieldLink RX9 160 "FlashBoardModel" "more" "I",
  .code yX9_storeVectors cX9_storeVectors 2 none,
  .code yX9_storeFlash cX9_storeFlash 2 none,
  .code yX9_holdDog cX9_holdDog 1 none,
  .code yX9_storeDog cX9_storeDog 3 none,
  .methodLink RX9 125 yX9_holdDog,
  .instanceMethod yX9_holdDog,
  .selects RX9 yX9_holdDog yX9_holdDog,
  .code yX9_store cX9_store 3 none,
  .fieldLink RX9 110 "FlashBoardModel" "waits" "I",
  .methodLink RX9 144 yX9_holds,
  .static yX9_holds,
  .methodLink RX9 148 yX9_storeRom,
  .instanceMethod yX9_storeRom,
  .selects RX9 yX9_storeRom yX9_storeRom,
  .methodLink RX9 151 yX9_storeVectors,
  .instanceMethod yX9_storeVectors,
  .selects RX9 yX9_storeVectors yX9_storeVectors,
  .methodLink RX9 154 yX9_storeFlash,
  .instanceMethod yX9_storeFlash,
  .selects RX9 yX9_storeFlash yX9_storeFlash,
  .methodLink RX9 157 yX9_storeDog,
  .instanceMethod yX9_storeDog,
  .selects RX9 yX9_storeDog yX9_storeDog,
  .code yX9_showReceived cX9_showReceived 1 none,
  .code yX9_load cX9_load 3 (some .int),
  .fieldLink RX9 138 "FlashBoardModel" "second" "I",
  .methodLink RX9 141 yX9_showReceived,
  .instanceMethod yX9_showReceived,
  .selects RX9 yX9_showReceived yX9_showReceived,
  .code yX9_displaced cX9_displaced 5 (some .int),
  .methodLink RX9 234 yX9_store,
  .instanceMethod yX9_store,
  .selects RX9 yX9_store yX9_store,
  .methodLink RX9 241 yX9_load,
  .instanceMethod yX9_load,
  .selects RX9 yX9_load yX9_load,
  .code yX9_restart cX9_restart 4 none,
  .fieldLink RX9 30 "FlashBoardModel" "fuse" "I",
  .fieldLink RX9 83 "FlashBoardModel" "isFresh" "Z",
  .methodLink RX9 122 yX9_clearBuffer,
  .instanceMethod yX9_clearBuffer,
  .selects RX9 yX9_clearBuffer yX9_clearBuffer,
  .code yX9_dog cX9_dog 2 (some .boolean),
  .methodLink RX9 56 yX9_restart,
  .instanceMethod yX9_restart,
  .selects RX9 yX9_restart yX9_restart,
  .code yX9_eeprom cX9_eeprom 2 (some .int),
  .code yX9_setPointer cX9_setPointer 3 none,
  .code yX9_push cX9_push 3 none,
  .methodLink RX9 238 yX9_setPointer,
  .instanceMethod yX9_setPointer,
  .selects RX9 yX9_setPointer yX9_setPointer,
  .code yX9_pushPlace cX9_pushPlace 2 none,
  .methodLink RX9 244 yX9_push,
  .instanceMethod yX9_push,
  .selects RX9 yX9_push yX9_push,
  .code yX9_enter cX9_enter 2 none,
  .methodLink RX9 169 yX9_pushPlace,
  .instanceMethod yX9_pushPlace,
  .selects RX9 yX9_pushPlace yX9_pushPlace,
  .code yX9_flashByte cX9_flashByte 4 (some .int),
  .fieldLink RX9 26 "FlashBoardModel" "locks" "I",
  .fieldLink RX9 256 "FlashBoardModel" "here" "I",
  .code yX9_frame cX9_frame 1 (some .int),
  .code yX9_fuses cX9_fuses 3 (some .int),
  .code yX9_got cX9_got 2 (some .int),
  .fieldLink RX9 201 "FlashBoardModel" "sent" "I",
  .fieldLink RX9 40 "FlashBoardModel" "had" "[I",
  .code yX9_host cX9_host 2 (some .int),
  .fieldLink RX9 37 "FlashBoardModel" "host" "[I",
  .code yX9_product cX9_product 4 none,
  .constant RX9 272 (32768),
  .code yX9_moves cX9_moves 9 (some .int),
  .methodLink RX9 305 yX9_product,
  .instanceMethod yX9_product,
  .selects RX9 yX9_product yX9_product,
  .code yX9_subtract cX9_subtract 8 (some .int),
  .code yX9_logic cX9_logic 2 (some .int),
  .code yX9_ofTwo cX9_ofTwo 6 (some .int),
  .methodLink RX9 285 yX9_moves,
  .instanceMethod yX9_moves,
  .selects RX9 yX9_moves yX9_moves,
  .methodLink RX9 288 yX9_carry,
  .instanceMethod yX9_carry,
  .selects RX9 yX9_carry yX9_carry,
  .methodLink RX9 291 yX9_subtract,
  .instanceMethod yX9_subtract,
  .selects RX9 yX9_subtract yX9_subtract,
  .methodLink RX9 295 yX9_add,
  .instanceMethod yX9_add,
  .selects RX9 yX9_add yX9_add,
  .methodLink RX9 302 yX9_logic,
  .instanceMethod yX9_logic,
  .selects RX9 yX9_logic yX9_logic,
  .code yX9_ofNumber cX9_ofNumber 5 (some .int),
  .code yX9_pop cX9_pop 2 (some .int),
  .code yX9_place cX9_place 5 (some .int),
  .code yX9_loads cX9_loads 6 (some .int),
  .methodLink RX9 327 yX9_flashByte,
  .instanceMethod yX9_flashByte,
  .selects RX9 yX9_flashByte yX9_flashByte,
  .methodLink RX9 247 yX9_pop,
  .instanceMethod yX9_pop,
  .selects RX9 yX9_pop yX9_pop,
  .methodLink RX9 330 yX9_place,
  .instanceMethod yX9_place,
  .selects RX9 yX9_place yX9_place,
  .code yX9_stores cX9_stores 5 (some .int),
  .code yX9_shifted cX9_shifted 6 (some .int),
  .code yX9_popPlace cX9_popPlace 2 (some .int),
  .code yX9_writes cX9_writes 5 (some .boolean),
  .fieldLink RX9 13 "FlashBoardModel" "buffer" "[I",
  .code yX9_storesFlash cX9_storesFlash 5 none,
  .methodLink RX9 352 yX9_writes,
  .instanceMethod yX9_writes,
  .selects RX9 yX9_writes yX9_writes,
  .code yX9_others cX9_others 2 (some .int),
  .constant RX9 344 (38144),
  .constant RX9 345 (38008),
  .methodLink RX9 346 yX9_popPlace,
  .instanceMethod yX9_popPlace,
  .selects RX9 yX9_popPlace yX9_popPlace,
  .methodLink RX9 349 yX9_storesFlash,
  .instanceMethod yX9_storesFlash,
  .selects RX9 yX9_storesFlash yX9_storesFlash,
  .code yX9_through cX9_through 2 (some .int),
  .constant RX9 342 (37897),
  .constant RX9 343 (38153),
  .code yX9_single cX9_single 5 (some .int),
  .methodLink RX9 333 yX9_shifted,
  .instanceMethod yX9_shifted,
  .selects RX9 yX9_shifted yX9_shifted,
  .methodLink RX9 336 yX9_others,
  .instanceMethod yX9_others,
  .selects RX9 yX9_others yX9_others,
  .methodLink RX9 339 yX9_through,
  .instanceMethod yX9_through,
  .selects RX9 yX9_through yX9_through,
  .code yX9_pairs cX9_pairs 7 (some .int),
  .code yX9_portBits cX9_portBits 6 (some .int),
  .code yX9_nines cX9_nines 2 (some .int),
  .methodLink RX9 312 yX9_loads,
  .instanceMethod yX9_loads,
  .selects RX9 yX9_loads yX9_loads,
  .methodLink RX9 315 yX9_stores,
  .instanceMethod yX9_stores,
  .selects RX9 yX9_stores yX9_stores,
  .methodLink RX9 318 yX9_single,
  .instanceMethod yX9_single,
  .selects RX9 yX9_single yX9_single,
  .methodLink RX9 321 yX9_pairs,
  .instanceMethod yX9_pairs,
  .selects RX9 yX9_pairs yX9_pairs,
  .methodLink RX9 324 yX9_portBits,
  .instanceMethod yX9_portBits,
  .selects RX9 yX9_portBits yX9_portBits,
  .code yX9_ports cX9_ports 4 (some .int),
  .code yX9_relative cX9_relative 3 (some .int),
  .code yX9_instruction cX9_instruction 3 (some .int),
  .constant RX9 271 (53248),
  .methodLink RX9 262 yX9_ofTwo,
  .instanceMethod yX9_ofTwo,
  .selects RX9 yX9_ofTwo yX9_ofTwo,
  .methodLink RX9 265 yX9_ofNumber,
  .instanceMethod yX9_ofNumber,
  .selects RX9 yX9_ofNumber yX9_ofNumber,
  .methodLink RX9 268 yX9_nines,
  .instanceMethod yX9_nines,
  .selects RX9 yX9_nines yX9_nines,
  .methodLink RX9 273 yX9_displaced,
  .instanceMethod yX9_displaced,
  .selects RX9 yX9_displaced yX9_displaced,
  .methodLink RX9 276 yX9_ports,
  .instanceMethod yX9_ports,
  .selects RX9 yX9_ports yX9_ports,
  .methodLink RX9 279 yX9_bits,
  .instanceMethod yX9_bits,
  .selects RX9 yX9_bits yX9_bits,
  .methodLink RX9 282 yX9_relative,
  .instanceMethod yX9_relative,
  .selects RX9 yX9_relative yX9_relative,
  .code yX9_line cX9_line 2 none,
  .fieldLink RX9 195 "FlashBoardModel" "sends" "I",
  .fieldLink RX9 207 "FlashBoardModel" "comes" "I",
  .methodLink RX9 198 yX9_frame,
  .instanceMethod yX9_frame,
  .selects RX9 yX9_frame yX9_frame,
  .code yX9_windows cX9_windows 1 none,
  .code yX9_timer cX9_timer 3 none,
  .code yX9_passes cX9_passes 1 (some .boolean),
  .methodLink RX9 182 yX9_windows,
  .instanceMethod yX9_windows,
  .selects RX9 yX9_windows yX9_windows,
  .methodLink RX9 185 yX9_timer,
  .instanceMethod yX9_timer,
  .selects RX9 yX9_timer yX9_timer,
  .methodLink RX9 188 yX9_line,
  .instanceMethod yX9_line,
  .selects RX9 yX9_line yX9_line,
  .methodLink RX9 191 yX9_dog,
  .instanceMethod yX9_dog,
  .selects RX9 yX9_dog yX9_dog,
  .code yX9_stepped cX9_stepped 6 (some .int),
  .methodLink RX9 219 yX9_enter,
  .instanceMethod yX9_enter,
  .selects RX9 yX9_enter yX9_enter,
  .methodLink RX9 222 yX9_instruction,
  .instanceMethod yX9_instruction,
  .selects RX9 yX9_instruction yX9_instruction,
  .methodLink RX9 225 yX9_passes,
  .instanceMethod yX9_passes,
  .selects RX9 yX9_passes yX9_passes,
  .code yX9_pass cX9_pass 3 (some .int),
  .constant RX9 363 (200000),
  .methodLink RX9 356 yX9_stepped,
  .instanceMethod yX9_stepped,
  .selects RX9 yX9_stepped yX9_stepped,
  .code yX9_pins cX9_pins 3 (some .int),
  .code yX9_power cX9_power 4 (some .boolean),
  .code yX9_put cX9_put 3 none,
  .code yX9_reset cX9_reset 1 none,
  .code yX9_run cX9_run 4 (some .int),
  .code yX9_sent cX9_sent 1 (some .int),
  .code yX9_start cX9_start 2 none,
  .code yX9_step cX9_step 1 (some .int),
  .code yX9_thrown cX9_thrown 1 (some .int),
  .code yX9_word cX9_word 2 (some .int)]
def wM1 : List Jvm.Cond := u_ws RX9 TX9 39
abbrev wM : List Jvm.Cond := wM1 ++ wM0
set_option maxRecDepth 100000 in
theorem goodM : wM.all goodWord = true := by decide +kernel
theorem inM_X9 : ∀ w ∈ u_ws RX9 TX9 39, w ∈ wM := by decide +kernel
-- FlashBoard$Alu.signed
def bsX0_signed : List mBl := [(0, [(0, .iload_n 0, [], 0, 0), (1, .sipush 128, [], 128, 0), (4, .if_icmp .ge 7, [(11, 0)], 0, 0), (7, .iload_n 0, [], 0, 0), (8, .goto 8, [(16, 0)], 0, 0)], 11),
  (11, [(11, .iload_n 0, [], 0, 0), (12, .sipush 256, [], 256, 0), (15, .isub, [], 0, 0)], 16),
  (16, [(16, .ireturn, [], 0, 0)], 17)]
def fdX0_signed : mFt := []
def clX0_signed : mCt := []
def spX0_signed : mSp := mSpOf shC fdX0_signed clX0_signed bsX0_signed 1 (some .int)
abbrev rmX0_signed : Room := { frames := 0, cells := 0, slots := 0, locals := 0 }
abbrev wkX0_signed : List Jvm.Cond := .code yX0_signed cX0_signed 1 (some .int) :: wC
set_option maxRecDepth 100000 in
set_option maxHeartbeats 4000000 in
theorem metX0_signed (l : Launch) (D : va_G) (ad : Nat → Nat) (tc : Nat → ClassId) : mMet l D vwCl ad tc shC yX0_signed wkX0_signed rmX0_signed spX0_signed :=
  mMet_of (own := RX0) (ret := (some .int)) (Fd := fdX0_signed) (Cl := clX0_signed) (Ks := []) (Fi := []) (Ci := []) (bs := bsX0_signed) rfl (by decide +kernel) rfl (by decide +kernel)
    (fun _ h => absurd h List.not_mem_nil)
    (fun _ h => absurd h List.not_mem_nil)
    (fun _ h => absurd h List.not_mem_nil) rfl rfl (by decide +kernel) (by decide) (by decide)
-- FlashBoard$Alu.signs
def bsX0_signs : List mBl := [(0, [(0, .iload_n 0, [], 0, 0), (1, .iload_n 1, [], 0, 0), (2, .iand, [], 0, 0), (3, .ifCond .eq 7, [(10, 0)], 0, 0), (6, .iconst 1, [], 1, 0), (7, .goto 4, [(11, 0)], 0, 0)], 10),
  (10, [(10, .iconst 0, [], 0, 0)], 11),
  (11, [(11, .istore_n 3, [], 0, 0), (12, .iload_n 0, [], 0, 0), (13, .ifCond .ne 7, [(20, 0)], 0, 0), (16, .iconst 2, [], 2, 0), (17, .goto 4, [(21, 0)], 0, 0)], 20),
  (20, [(20, .iconst 0, [], 0, 0)], 21),
  (21, [(21, .iload_n 3, [], 0, 0), (22, .ifCond .eq 7, [(29, 0)], 0, 0), (25, .iconst 4, [], 4, 0), (26, .goto 4, [(30, 0)], 0, 0)], 29),
  (29, [(29, .iconst 0, [], 0, 0)], 30),
  (30, [(30, .ior, [], 0, 0), (31, .iload_n 2, [], 0, 0), (32, .ifCond .eq 8, [(40, 0)], 0, 0), (35, .bipush 8, [], 8, 0), (37, .goto 4, [(41, 0)], 0, 0)], 40),
  (40, [(40, .iconst 0, [], 0, 0)], 41),
  (41, [(41, .ior, [], 0, 0), (42, .iload_n 3, [], 0, 0), (43, .iload_n 2, [], 0, 0), (44, .if_icmp .eq 8, [(52, 0)], 0, 0), (47, .bipush 16, [], 16, 0), (49, .goto 4, [(53, 0)], 0, 0)], 52),
  (52, [(52, .iconst 0, [], 0, 0)], 53),
  (53, [(53, .ior, [], 0, 0), (54, .ireturn, [], 0, 0)], 55)]
def fdX0_signs : mFt := []
def clX0_signs : mCt := []
def spX0_signs : mSp := mSpOf shC fdX0_signs clX0_signs bsX0_signs 3 (some .int)
abbrev rmX0_signs : Room := { frames := 0, cells := 0, slots := 0, locals := 0 }
abbrev wkX0_signs : List Jvm.Cond := .code yX0_signs cX0_signs 4 (some .int) :: wC
set_option maxRecDepth 100000 in
set_option maxHeartbeats 4000000 in
theorem metX0_signs (l : Launch) (D : va_G) (ad : Nat → Nat) (tc : Nat → ClassId) : mMet l D vwCl ad tc shC yX0_signs wkX0_signs rmX0_signs spX0_signs :=
  mMet_of (own := RX0) (ret := (some .int)) (Fd := fdX0_signs) (Cl := clX0_signs) (Ks := []) (Fi := []) (Ci := []) (bs := bsX0_signs) rfl (by decide +kernel) rfl (by decide +kernel)
    (fun _ h => absurd h List.not_mem_nil)
    (fun _ h => absurd h List.not_mem_nil)
    (fun _ h => absurd h List.not_mem_nil) rfl rfl (by decide +kernel) (by decide) (by decide)
-- FlashBoard$Alu.mark
def bsX0_mark : List mBl := [(0, [(0, .aload_n 0, [], 0, 0), (1, .getfield 9, [], 0, 0), (4, .bipush 95, [], 95, 0), (6, .aload_n 0, [], 0, 0), (7, .getfield 9, [], 0, 0), (10, .bipush 95, [], 95, 0), (12, .iaload, [], 0, 0), (13, .iload_n 1, [], 0, 0), (14, .iconst (-1), [], (-1), 0), (15, .ixor, [], 0, 0), (16, .iand, [], 0, 0), (17, .iload_n 2, [], 0, 0), (18, .ior, [], 0, 0), (19, .iastore, [], 0, 0), (20, .return_, [], 0, 0)], 21)]
def fdX0_mark : mFt := [(9, 3, 0, 0)]
def clX0_mark : mCt := []
def spX0_mark : mSp := mSpOf shC fdX0_mark clX0_mark bsX0_mark 3 none
abbrev rmX0_mark : Room := { frames := 0, cells := 0, slots := 0, locals := 0 }
abbrev wkX0_mark : List Jvm.Cond := .code yX0_mark cX0_mark 3 none :: wC
set_option maxRecDepth 100000 in
set_option maxHeartbeats 4000000 in
theorem metX0_mark (l : Launch) (D : va_G) (ad : Nat → Nat) (tc : Nat → ClassId) : mMet l D vwCl ad tc shC yX0_mark wkX0_mark rmX0_mark spX0_mark :=
  mMet_of (own := RX0) (ret := none) (Fd := fdX0_mark) (Cl := clX0_mark) (Ks := []) (Fi := [(9, 0)]) (Ci := []) (bs := bsX0_mark) rfl (by decide +kernel) rfl (by decide +kernel)
    (List.forall_mem_cons.mpr ⟨⟨RX0, TX0, 1, rfl, by decide, fun w h => mIn (inC_X0 w h), mIn (mAt (i := 3) (by decide +kernel)), fun h => absurd h (by decide)⟩, fun _ h => absurd h List.not_mem_nil⟩)
    (fun _ h => absurd h List.not_mem_nil)
    (fun _ h => absurd h List.not_mem_nil) rfl rfl (by decide +kernel) (by decide) (by decide)
-- FlashBoard$Alu.add
def bsX0_add : List mBl := [(0, [(0, .iload_n 1, [], 0, 0), (1, .iload_n 2, [], 0, 0), (2, .iadd, [], 0, 0), (3, .iload_n 3, [], 0, 0), (4, .iadd, [], 0, 0), (5, .istore 4, [], 0, 0), (7, .iload_n 1, [], 0, 0), (8, .invokestatic 15, [], 0, 0), (11, .iload_n 2, [], 0, 0), (12, .invokestatic 15, [], 0, 0), (15, .iadd, [], 0, 0), (16, .iload_n 3, [], 0, 0), (17, .iadd, [], 0, 0), (18, .istore 5, [], 0, 0), (20, .iload 4, [], 0, 0), (22, .sipush 255, [], 255, 0), (25, .iand, [], 0, 0), (26, .sipush 128, [], 128, 0), (29, .iload 5, [], 0, 0), (31, .bipush (-128), [], (-128), 0), (33, .if_icmp .lt 10, [(43, 0)], 0, 0), (36, .iload 5, [], 0, 0), (38, .bipush 127, [], 127, 0), (40, .if_icmp .le 7, [(47, 0)], 0, 0)], 43),
  (43, [(43, .iconst 1, [], 1, 0), (44, .goto 4, [(48, 0)], 0, 0)], 47),
  (47, [(47, .iconst 0, [], 0, 0)], 48),
  (48, [(48, .invokestatic 19, [], 0, 1), (51, .istore 6, [], 0, 0), (53, .iload 4, [], 0, 0), (55, .sipush 255, [], 255, 0), (58, .if_icmp .le 9, [(67, 0)], 0, 0), (61, .iload 6, [], 0, 0), (63, .iconst 1, [], 1, 0), (64, .ior, [], 0, 0), (65, .istore 6, [], 0, 0)], 67),
  (67, [(67, .iload_n 1, [], 0, 0), (68, .bipush 15, [], 15, 0), (70, .iand, [], 0, 0), (71, .iload_n 2, [], 0, 0), (72, .bipush 15, [], 15, 0), (74, .iand, [], 0, 0), (75, .iadd, [], 0, 0), (76, .iload_n 3, [], 0, 0), (77, .iadd, [], 0, 0), (78, .bipush 15, [], 15, 0), (80, .if_icmp .le 10, [(90, 0)], 0, 0), (83, .iload 6, [], 0, 0), (85, .bipush 32, [], 32, 0), (87, .ior, [], 0, 0), (88, .istore 6, [], 0, 0)], 90),
  (90, [(90, .aload_n 0, [], 0, 0), (91, .bipush 63, [], 63, 0), (93, .iload 6, [], 0, 0), (95, .invokevirtual 23, [], 0, 2), (98, .iload 4, [], 0, 0), (100, .sipush 255, [], 255, 0), (103, .iand, [], 0, 0), (104, .ireturn, [], 0, 0)], 105)]
def fdX0_add : mFt := []
def clX0_add : mCt := [(15, 1, 1, 0, spX0_signed), (19, 1, 3, 0, spX0_signs), (23, 0, 2, 3, spX0_mark)]
def spX0_add : mSp := mSpOf shC fdX0_add clX0_add bsX0_add 4 (some .int)
abbrev rmX0_add : Room := { frames := 1, cells := 0, slots := 0, locals := 23 }
abbrev wkX0_add : List Jvm.Cond := .code yX0_add cX0_add 7 (some .int) :: wC
set_option maxRecDepth 100000 in
set_option maxHeartbeats 4000000 in
theorem metX0_add (l : Launch) (D : va_G) (ad : Nat → Nat) (tc : Nat → ClassId) : mMet l D vwCl ad tc shC yX0_add wkX0_add rmX0_add spX0_add :=
  mMet_of (own := RX0) (ret := (some .int)) (Fd := fdX0_add) (Cl := clX0_add) (Ks := []) (Fi := []) (Ci := [(15, 1), (19, 1), (23, 0)]) (bs := bsX0_add) rfl (by decide +kernel) rfl (by decide +kernel)
    (fun _ h => absurd h List.not_mem_nil)
    (fun _ h => absurd h List.not_mem_nil)
    (List.forall_mem_cons.mpr ⟨Or.inr ⟨rfl, yX0_signed, cX0_signed, 1, (some .int), wkX0_signed, _, rmX0_signed, mGoodS goodC (mAt (i := 5) (by decide +kernel)) (mAt (i := 7) (by decide +kernel)) (mAt (i := 6) (by decide +kernel)) (mAt (i := 0) (by decide +kernel)), rfl, rfl, rfl, by decide +kernel, by decide, metX0_signed l D ad tc⟩, List.forall_mem_cons.mpr ⟨Or.inr ⟨rfl, yX0_signs, cX0_signs, 4, (some .int), wkX0_signs, _, rmX0_signs, mGoodS goodC (mAt (i := 8) (by decide +kernel)) (mAt (i := 9) (by decide +kernel)) (mAt (i := 6) (by decide +kernel)) (mAt (i := 1) (by decide +kernel)), rfl, rfl, rfl, by decide +kernel, by decide, metX0_signs l D ad tc⟩, List.forall_mem_cons.mpr ⟨Or.inl ⟨rfl, RX0, TX0, 1, yX0_mark, cX0_mark, 3, none, wkX0_mark, _, rmX0_mark, rfl, mGoodV goodC (mAt (i := 10) (by decide +kernel)) (mAt (i := 11) (by decide +kernel)) (mAt (i := 12) (by decide +kernel)) (mAt (i := 6) (by decide +kernel)) (mAt (i := 2) (by decide +kernel)), rfl, rfl, rfl, by decide +kernel, by decide, metX0_mark l D ad tc⟩, fun _ h => absurd h List.not_mem_nil⟩⟩⟩) rfl rfl (by decide +kernel) (by decide) (by decide)
-- FlashBoard$Alu.markPair
def bsX0_markPair : List mBl := [(0, [(0, .aload_n 0, [], 0, 0), (1, .bipush 31, [], 31, 0), (3, .iload_n 1, [], 0, 0), (4, .ldc 39, [], 32768, 0), (6, .iload_n 2, [], 0, 0), (7, .invokestatic 19, [], 0, 0), (10, .iload_n 3, [], 0, 0), (11, .ifCond .eq 7, [(18, 0)], 0, 0), (14, .iconst 1, [], 1, 0), (15, .goto 4, [(19, 0)], 0, 0)], 18),
  (18, [(18, .iconst 0, [], 0, 0)], 19),
  (19, [(19, .ior, [], 0, 0), (20, .invokevirtual 23, [], 0, 1), (23, .return_, [], 0, 0)], 24)]
def fdX0_markPair : mFt := []
def clX0_markPair : mCt := [(19, 1, 3, 0, spX0_signs), (23, 0, 2, 3, spX0_mark)]
def spX0_markPair : mSp := mSpOf shC fdX0_markPair clX0_markPair bsX0_markPair 4 none
abbrev rmX0_markPair : Room := { frames := 1, cells := 0, slots := 0, locals := 23 }
abbrev wkX0_markPair : List Jvm.Cond := .code yX0_markPair cX0_markPair 4 none :: wC
set_option maxRecDepth 100000 in
set_option maxHeartbeats 4000000 in
theorem metX0_markPair (l : Launch) (D : va_G) (ad : Nat → Nat) (tc : Nat → ClassId) : mMet l D vwCl ad tc shC yX0_markPair wkX0_markPair rmX0_markPair spX0_markPair :=
  mMet_of (own := RX0) (ret := none) (Fd := fdX0_markPair) (Cl := clX0_markPair) (Ks := [(39, 32768)]) (Fi := []) (Ci := [(19, 1), (23, 0)]) (bs := bsX0_markPair) rfl (by decide +kernel) rfl (by decide +kernel)
    (fun _ h => absurd h List.not_mem_nil)
    (List.forall_mem_cons.mpr ⟨mIn (mAt (i := 14) (by decide +kernel)), fun _ h => absurd h List.not_mem_nil⟩)
    (List.forall_mem_cons.mpr ⟨Or.inr ⟨rfl, yX0_signs, cX0_signs, 4, (some .int), wkX0_signs, _, rmX0_signs, mGoodS goodC (mAt (i := 8) (by decide +kernel)) (mAt (i := 9) (by decide +kernel)) (mAt (i := 6) (by decide +kernel)) (mAt (i := 1) (by decide +kernel)), rfl, rfl, rfl, by decide +kernel, by decide, metX0_signs l D ad tc⟩, List.forall_mem_cons.mpr ⟨Or.inl ⟨rfl, RX0, TX0, 1, yX0_mark, cX0_mark, 3, none, wkX0_mark, _, rmX0_mark, rfl, mGoodV goodC (mAt (i := 10) (by decide +kernel)) (mAt (i := 11) (by decide +kernel)) (mAt (i := 12) (by decide +kernel)) (mAt (i := 6) (by decide +kernel)) (mAt (i := 2) (by decide +kernel)), rfl, rfl, rfl, by decide +kernel, by decide, metX0_mark l D ad tc⟩, fun _ h => absurd h List.not_mem_nil⟩⟩) rfl rfl (by decide +kernel) (by decide) (by decide)
-- FlashBoard$Alu.addToPair
def bsX0_addToPair : List mBl := [(0, [(0, .iload_n 1, [], 0, 0), (1, .iload_n 2, [], 0, 0), (2, .iadd, [], 0, 0), (3, .istore_n 3, [], 0, 0), (4, .iload_n 3, [], 0, 0), (5, .ldc 38, [], 65535, 0), (7, .iand, [], 0, 0), (8, .istore 4, [], 0, 0), (10, .aload_n 0, [], 0, 0), (11, .iload 4, [], 0, 0), (13, .iload 4, [], 0, 0), (15, .iload_n 1, [], 0, 0), (16, .iconst (-1), [], (-1), 0), (17, .ixor, [], 0, 0), (18, .iand, [], 0, 0), (19, .ldc 39, [], 32768, 1), (21, .iand, [], 0, 0), (22, .ifCond .eq 7, [(29, 0)], 0, 0), (25, .iconst 1, [], 1, 0), (26, .goto 4, [(30, 0)], 0, 0)], 29),
  (29, [(29, .iconst 0, [], 0, 0)], 30),
  (30, [(30, .iload_n 3, [], 0, 0), (31, .ldc 38, [], 65535, 0), (33, .if_icmp .le 7, [(40, 0)], 0, 0), (36, .iconst 1, [], 1, 0), (37, .goto 4, [(41, 0)], 0, 0)], 40),
  (40, [(40, .iconst 0, [], 0, 0)], 41),
  (41, [(41, .invokevirtual 40, [], 0, 0), (44, .iload 4, [], 0, 0), (46, .ireturn, [], 0, 0)], 47)]
def fdX0_addToPair : mFt := []
def clX0_addToPair : mCt := [(40, 0, 3, 3, spX0_markPair)]
def spX0_addToPair : mSp := mSpOf shC fdX0_addToPair clX0_addToPair bsX0_addToPair 3 (some .int)
abbrev rmX0_addToPair : Room := { frames := 2, cells := 0, slots := 0, locals := 46 }
abbrev wkX0_addToPair : List Jvm.Cond := .code yX0_addToPair cX0_addToPair 5 (some .int) :: wC
set_option maxRecDepth 100000 in
set_option maxHeartbeats 4000000 in
theorem metX0_addToPair (l : Launch) (D : va_G) (ad : Nat → Nat) (tc : Nat → ClassId) : mMet l D vwCl ad tc shC yX0_addToPair wkX0_addToPair rmX0_addToPair spX0_addToPair :=
  mMet_of (own := RX0) (ret := (some .int)) (Fd := fdX0_addToPair) (Cl := clX0_addToPair) (Ks := [(38, 65535), (39, 32768)]) (Fi := []) (Ci := [(40, 0)]) (bs := bsX0_addToPair) rfl (by decide +kernel) rfl (by decide +kernel)
    (fun _ h => absurd h List.not_mem_nil)
    (List.forall_mem_cons.mpr ⟨mIn (mAt (i := 16) (by decide +kernel)), List.forall_mem_cons.mpr ⟨mIn (mAt (i := 14) (by decide +kernel)), fun _ h => absurd h List.not_mem_nil⟩⟩)
    (List.forall_mem_cons.mpr ⟨Or.inl ⟨rfl, RX0, TX0, 1, yX0_markPair, cX0_markPair, 4, none, wkX0_markPair, _, rmX0_markPair, rfl, mGoodV goodC (mAt (i := 17) (by decide +kernel)) (mAt (i := 18) (by decide +kernel)) (mAt (i := 19) (by decide +kernel)) (mAt (i := 6) (by decide +kernel)) (mAt (i := 13) (by decide +kernel)), rfl, rfl, rfl, by decide +kernel, by decide, metX0_markPair l D ad tc⟩, fun _ h => absurd h List.not_mem_nil⟩) rfl rfl (by decide +kernel) (by decide) (by decide)
-- FlashBoard$Alu.carry
def bsX0_carry : List mBl := [(0, [(0, .aload_n 0, [], 0, 0), (1, .getfield 9, [], 0, 0), (4, .bipush 95, [], 95, 0), (6, .iaload, [], 0, 0), (7, .iconst 1, [], 1, 0), (8, .iand, [], 0, 0), (9, .ireturn, [], 0, 0)], 10)]
def fdX0_carry : mFt := [(9, 3, 0, 0)]
def clX0_carry : mCt := []
def spX0_carry : mSp := mSpOf shC fdX0_carry clX0_carry bsX0_carry 1 (some .int)
abbrev rmX0_carry : Room := { frames := 0, cells := 0, slots := 0, locals := 0 }
abbrev wkX0_carry : List Jvm.Cond := .code yX0_carry cX0_carry 1 (some .int) :: wC
set_option maxRecDepth 100000 in
set_option maxHeartbeats 4000000 in
theorem metX0_carry (l : Launch) (D : va_G) (ad : Nat → Nat) (tc : Nat → ClassId) : mMet l D vwCl ad tc shC yX0_carry wkX0_carry rmX0_carry spX0_carry :=
  mMet_of (own := RX0) (ret := (some .int)) (Fd := fdX0_carry) (Cl := clX0_carry) (Ks := []) (Fi := [(9, 0)]) (Ci := []) (bs := bsX0_carry) rfl (by decide +kernel) rfl (by decide +kernel)
    (List.forall_mem_cons.mpr ⟨⟨RX0, TX0, 1, rfl, by decide, fun w h => mIn (inC_X0 w h), mIn (mAt (i := 3) (by decide +kernel)), fun h => absurd h (by decide)⟩, fun _ h => absurd h List.not_mem_nil⟩)
    (fun _ h => absurd h List.not_mem_nil)
    (fun _ h => absurd h List.not_mem_nil) rfl rfl (by decide +kernel) (by decide) (by decide)
-- FlashBoard$Alu.count
def bsX0_count : List mBl := [(0, [(0, .iload_n 1, [], 0, 0), (1, .iload_n 2, [], 0, 0), (2, .iadd, [], 0, 0), (3, .sipush 255, [], 255, 0), (6, .iand, [], 0, 0), (7, .istore 4, [], 0, 0), (9, .aload_n 0, [], 0, 0), (10, .bipush 30, [], 30, 0), (12, .iload 4, [], 0, 0), (14, .sipush 128, [], 128, 0), (17, .iload 4, [], 0, 0), (19, .iload_n 3, [], 0, 0), (20, .if_icmp .ne 7, [(27, 0)], 0, 0), (23, .iconst 1, [], 1, 0), (24, .goto 4, [(28, 0)], 0, 0)], 27),
  (27, [(27, .iconst 0, [], 0, 0)], 28),
  (28, [(28, .invokestatic 19, [], 0, 0), (31, .invokevirtual 23, [], 0, 1), (34, .iload 4, [], 0, 0), (36, .ireturn, [], 0, 0)], 37)]
def fdX0_count : mFt := []
def clX0_count : mCt := [(19, 1, 3, 0, spX0_signs), (23, 0, 2, 3, spX0_mark)]
def spX0_count : mSp := mSpOf shC fdX0_count clX0_count bsX0_count 4 (some .int)
abbrev rmX0_count : Room := { frames := 1, cells := 0, slots := 0, locals := 23 }
abbrev wkX0_count : List Jvm.Cond := .code yX0_count cX0_count 5 (some .int) :: wC
set_option maxRecDepth 100000 in
set_option maxHeartbeats 4000000 in
theorem metX0_count (l : Launch) (D : va_G) (ad : Nat → Nat) (tc : Nat → ClassId) : mMet l D vwCl ad tc shC yX0_count wkX0_count rmX0_count spX0_count :=
  mMet_of (own := RX0) (ret := (some .int)) (Fd := fdX0_count) (Cl := clX0_count) (Ks := []) (Fi := []) (Ci := [(19, 1), (23, 0)]) (bs := bsX0_count) rfl (by decide +kernel) rfl (by decide +kernel)
    (fun _ h => absurd h List.not_mem_nil)
    (fun _ h => absurd h List.not_mem_nil)
    (List.forall_mem_cons.mpr ⟨Or.inr ⟨rfl, yX0_signs, cX0_signs, 4, (some .int), wkX0_signs, _, rmX0_signs, mGoodS goodC (mAt (i := 8) (by decide +kernel)) (mAt (i := 9) (by decide +kernel)) (mAt (i := 6) (by decide +kernel)) (mAt (i := 1) (by decide +kernel)), rfl, rfl, rfl, by decide +kernel, by decide, metX0_signs l D ad tc⟩, List.forall_mem_cons.mpr ⟨Or.inl ⟨rfl, RX0, TX0, 1, yX0_mark, cX0_mark, 3, none, wkX0_mark, _, rmX0_mark, rfl, mGoodV goodC (mAt (i := 10) (by decide +kernel)) (mAt (i := 11) (by decide +kernel)) (mAt (i := 12) (by decide +kernel)) (mAt (i := 6) (by decide +kernel)) (mAt (i := 2) (by decide +kernel)), rfl, rfl, rfl, by decide +kernel, by decide, metX0_mark l D ad tc⟩, fun _ h => absurd h List.not_mem_nil⟩⟩) rfl rfl (by decide +kernel) (by decide) (by decide)
-- FlashBoard$Alu.logic
def bsX0_logic : List mBl := [(0, [(0, .aload_n 0, [], 0, 0), (1, .bipush 30, [], 30, 0), (3, .iload_n 1, [], 0, 0), (4, .sipush 128, [], 128, 0), (7, .iconst 0, [], 0, 0), (8, .invokestatic 19, [], 0, 0), (11, .invokevirtual 23, [], 0, 1), (14, .iload_n 1, [], 0, 0), (15, .ireturn, [], 0, 0)], 16)]
def fdX0_logic : mFt := []
def clX0_logic : mCt := [(19, 1, 3, 0, spX0_signs), (23, 0, 2, 3, spX0_mark)]
def spX0_logic : mSp := mSpOf shC fdX0_logic clX0_logic bsX0_logic 2 (some .int)
abbrev rmX0_logic : Room := { frames := 1, cells := 0, slots := 0, locals := 23 }
abbrev wkX0_logic : List Jvm.Cond := .code yX0_logic cX0_logic 2 (some .int) :: wC
set_option maxRecDepth 100000 in
set_option maxHeartbeats 4000000 in
theorem metX0_logic (l : Launch) (D : va_G) (ad : Nat → Nat) (tc : Nat → ClassId) : mMet l D vwCl ad tc shC yX0_logic wkX0_logic rmX0_logic spX0_logic :=
  mMet_of (own := RX0) (ret := (some .int)) (Fd := fdX0_logic) (Cl := clX0_logic) (Ks := []) (Fi := []) (Ci := [(19, 1), (23, 0)]) (bs := bsX0_logic) rfl (by decide +kernel) rfl (by decide +kernel)
    (fun _ h => absurd h List.not_mem_nil)
    (fun _ h => absurd h List.not_mem_nil)
    (List.forall_mem_cons.mpr ⟨Or.inr ⟨rfl, yX0_signs, cX0_signs, 4, (some .int), wkX0_signs, _, rmX0_signs, mGoodS goodC (mAt (i := 8) (by decide +kernel)) (mAt (i := 9) (by decide +kernel)) (mAt (i := 6) (by decide +kernel)) (mAt (i := 1) (by decide +kernel)), rfl, rfl, rfl, by decide +kernel, by decide, metX0_signs l D ad tc⟩, List.forall_mem_cons.mpr ⟨Or.inl ⟨rfl, RX0, TX0, 1, yX0_mark, cX0_mark, 3, none, wkX0_mark, _, rmX0_mark, rfl, mGoodV goodC (mAt (i := 10) (by decide +kernel)) (mAt (i := 11) (by decide +kernel)) (mAt (i := 12) (by decide +kernel)) (mAt (i := 6) (by decide +kernel)) (mAt (i := 2) (by decide +kernel)), rfl, rfl, rfl, by decide +kernel, by decide, metX0_mark l D ad tc⟩, fun _ h => absurd h List.not_mem_nil⟩⟩) rfl rfl (by decide +kernel) (by decide) (by decide)
-- FlashBoard$Alu.invert
def bsX0_invert : List mBl := [(0, [(0, .aload_n 0, [], 0, 0), (1, .iconst 1, [], 1, 0), (2, .iconst 1, [], 1, 0), (3, .invokevirtual 23, [], 0, 0), (6, .aload_n 0, [], 0, 0), (7, .sipush 255, [], 255, 0), (10, .iload_n 1, [], 0, 0), (11, .isub, [], 0, 0), (12, .invokevirtual 35, [], 0, 1), (15, .ireturn, [], 0, 0)], 16)]
def fdX0_invert : mFt := []
def clX0_invert : mCt := [(23, 0, 2, 3, spX0_mark), (35, 0, 1, 3, spX0_logic)]
def spX0_invert : mSp := mSpOf shC fdX0_invert clX0_invert bsX0_invert 2 (some .int)
abbrev rmX0_invert : Room := { frames := 2, cells := 0, slots := 0, locals := 44 }
abbrev wkX0_invert : List Jvm.Cond := .code yX0_invert cX0_invert 2 (some .int) :: wC
set_option maxRecDepth 100000 in
set_option maxHeartbeats 4000000 in
theorem metX0_invert (l : Launch) (D : va_G) (ad : Nat → Nat) (tc : Nat → ClassId) : mMet l D vwCl ad tc shC yX0_invert wkX0_invert rmX0_invert spX0_invert :=
  mMet_of (own := RX0) (ret := (some .int)) (Fd := fdX0_invert) (Cl := clX0_invert) (Ks := []) (Fi := []) (Ci := [(23, 0), (35, 0)]) (bs := bsX0_invert) rfl (by decide +kernel) rfl (by decide +kernel)
    (fun _ h => absurd h List.not_mem_nil)
    (fun _ h => absurd h List.not_mem_nil)
    (List.forall_mem_cons.mpr ⟨Or.inl ⟨rfl, RX0, TX0, 1, yX0_mark, cX0_mark, 3, none, wkX0_mark, _, rmX0_mark, rfl, mGoodV goodC (mAt (i := 10) (by decide +kernel)) (mAt (i := 11) (by decide +kernel)) (mAt (i := 12) (by decide +kernel)) (mAt (i := 6) (by decide +kernel)) (mAt (i := 2) (by decide +kernel)), rfl, rfl, rfl, by decide +kernel, by decide, metX0_mark l D ad tc⟩, List.forall_mem_cons.mpr ⟨Or.inl ⟨rfl, RX0, TX0, 1, yX0_logic, cX0_logic, 2, (some .int), wkX0_logic, _, rmX0_logic, rfl, mGoodV goodC (mAt (i := 24) (by decide +kernel)) (mAt (i := 25) (by decide +kernel)) (mAt (i := 26) (by decide +kernel)) (mAt (i := 6) (by decide +kernel)) (mAt (i := 22) (by decide +kernel)), rfl, rfl, rfl, by decide +kernel, by decide, metX0_logic l D ad tc⟩, fun _ h => absurd h List.not_mem_nil⟩⟩) rfl rfl (by decide +kernel) (by decide) (by decide)
-- FlashBoard$Alu.markProduct
def bsX0_markProduct : List mBl := [(0, [(0, .aload_n 0, [], 0, 0), (1, .iconst 3, [], 3, 0), (2, .iload_n 1, [], 0, 0), (3, .ldc 39, [], 32768, 0), (5, .iand, [], 0, 0), (6, .ifCond .eq 7, [(13, 0)], 0, 0), (9, .iconst 1, [], 1, 0), (10, .goto 4, [(14, 0)], 0, 0)], 13),
  (13, [(13, .iconst 0, [], 0, 0)], 14),
  (14, [(14, .iload_n 2, [], 0, 0), (15, .ifCond .ne 7, [(22, 0)], 0, 0), (18, .iconst 2, [], 2, 0), (19, .goto 4, [(23, 0)], 0, 0)], 22),
  (22, [(22, .iconst 0, [], 0, 0)], 23),
  (23, [(23, .ior, [], 0, 0), (24, .invokevirtual 23, [], 0, 0), (27, .return_, [], 0, 0)], 28)]
def fdX0_markProduct : mFt := []
def clX0_markProduct : mCt := [(23, 0, 2, 3, spX0_mark)]
def spX0_markProduct : mSp := mSpOf shC fdX0_markProduct clX0_markProduct bsX0_markProduct 3 none
abbrev rmX0_markProduct : Room := { frames := 1, cells := 0, slots := 0, locals := 22 }
abbrev wkX0_markProduct : List Jvm.Cond := .code yX0_markProduct cX0_markProduct 3 none :: wC
set_option maxRecDepth 100000 in
set_option maxHeartbeats 4000000 in
theorem metX0_markProduct (l : Launch) (D : va_G) (ad : Nat → Nat) (tc : Nat → ClassId) : mMet l D vwCl ad tc shC yX0_markProduct wkX0_markProduct rmX0_markProduct spX0_markProduct :=
  mMet_of (own := RX0) (ret := none) (Fd := fdX0_markProduct) (Cl := clX0_markProduct) (Ks := [(39, 32768)]) (Fi := []) (Ci := [(23, 0)]) (bs := bsX0_markProduct) rfl (by decide +kernel) rfl (by decide +kernel)
    (fun _ h => absurd h List.not_mem_nil)
    (List.forall_mem_cons.mpr ⟨mIn (mAt (i := 14) (by decide +kernel)), fun _ h => absurd h List.not_mem_nil⟩)
    (List.forall_mem_cons.mpr ⟨Or.inl ⟨rfl, RX0, TX0, 1, yX0_mark, cX0_mark, 3, none, wkX0_mark, _, rmX0_mark, rfl, mGoodV goodC (mAt (i := 10) (by decide +kernel)) (mAt (i := 11) (by decide +kernel)) (mAt (i := 12) (by decide +kernel)) (mAt (i := 6) (by decide +kernel)) (mAt (i := 2) (by decide +kernel)), rfl, rfl, rfl, by decide +kernel, by decide, metX0_mark l D ad tc⟩, fun _ h => absurd h List.not_mem_nil⟩) rfl rfl (by decide +kernel) (by decide) (by decide)
-- FlashBoard$Alu.shiftRight
def bsX0_shiftRight : List mBl := [(0, [(0, .iload_n 1, [], 0, 0), (1, .iconst 1, [], 1, 0), (2, .ishr, [], 0, 0), (3, .iload_n 2, [], 0, 0), (4, .bipush 7, [], 7, 0), (6, .ishl, [], 0, 0), (7, .ior, [], 0, 0), (8, .istore_n 3, [], 0, 0), (9, .iload_n 1, [], 0, 0), (10, .iconst 1, [], 1, 0), (11, .iand, [], 0, 0), (12, .ifCond .eq 7, [(19, 0)], 0, 0), (15, .iconst 1, [], 1, 0), (16, .goto 4, [(20, 0)], 0, 0)], 19),
  (19, [(19, .iconst 0, [], 0, 0)], 20),
  (20, [(20, .istore 4, [], 0, 0), (22, .iload_n 3, [], 0, 0), (23, .sipush 128, [], 128, 0), (26, .iand, [], 0, 0), (27, .ifCond .eq 7, [(34, 0)], 0, 0), (30, .iconst 1, [], 1, 0), (31, .goto 4, [(35, 0)], 0, 0)], 34),
  (34, [(34, .iconst 0, [], 0, 0)], 35),
  (35, [(35, .istore 5, [], 0, 0), (37, .aload_n 0, [], 0, 0), (38, .bipush 31, [], 31, 0), (40, .iload_n 3, [], 0, 0), (41, .sipush 128, [], 128, 0), (44, .iload 5, [], 0, 0), (46, .iload 4, [], 0, 0), (48, .if_icmp .eq 7, [(55, 0)], 0, 0), (51, .iconst 1, [], 1, 0), (52, .goto 4, [(56, 0)], 0, 0)], 55),
  (55, [(55, .iconst 0, [], 0, 0)], 56),
  (56, [(56, .invokestatic 19, [], 0, 0), (59, .iload 4, [], 0, 0), (61, .ifCond .eq 7, [(68, 0)], 0, 0), (64, .iconst 1, [], 1, 0), (65, .goto 4, [(69, 0)], 0, 0)], 68),
  (68, [(68, .iconst 0, [], 0, 0)], 69),
  (69, [(69, .ior, [], 0, 0), (70, .invokevirtual 23, [], 0, 1), (73, .iload_n 3, [], 0, 0), (74, .ireturn, [], 0, 0)], 75)]
def fdX0_shiftRight : mFt := []
def clX0_shiftRight : mCt := [(19, 1, 3, 0, spX0_signs), (23, 0, 2, 3, spX0_mark)]
def spX0_shiftRight : mSp := mSpOf shC fdX0_shiftRight clX0_shiftRight bsX0_shiftRight 3 (some .int)
abbrev rmX0_shiftRight : Room := { frames := 1, cells := 0, slots := 0, locals := 23 }
abbrev wkX0_shiftRight : List Jvm.Cond := .code yX0_shiftRight cX0_shiftRight 6 (some .int) :: wC
set_option maxRecDepth 100000 in
set_option maxHeartbeats 4000000 in
theorem metX0_shiftRight (l : Launch) (D : va_G) (ad : Nat → Nat) (tc : Nat → ClassId) : mMet l D vwCl ad tc shC yX0_shiftRight wkX0_shiftRight rmX0_shiftRight spX0_shiftRight :=
  mMet_of (own := RX0) (ret := (some .int)) (Fd := fdX0_shiftRight) (Cl := clX0_shiftRight) (Ks := []) (Fi := []) (Ci := [(19, 1), (23, 0)]) (bs := bsX0_shiftRight) rfl (by decide +kernel) rfl (by decide +kernel)
    (fun _ h => absurd h List.not_mem_nil)
    (fun _ h => absurd h List.not_mem_nil)
    (List.forall_mem_cons.mpr ⟨Or.inr ⟨rfl, yX0_signs, cX0_signs, 4, (some .int), wkX0_signs, _, rmX0_signs, mGoodS goodC (mAt (i := 8) (by decide +kernel)) (mAt (i := 9) (by decide +kernel)) (mAt (i := 6) (by decide +kernel)) (mAt (i := 1) (by decide +kernel)), rfl, rfl, rfl, by decide +kernel, by decide, metX0_signs l D ad tc⟩, List.forall_mem_cons.mpr ⟨Or.inl ⟨rfl, RX0, TX0, 1, yX0_mark, cX0_mark, 3, none, wkX0_mark, _, rmX0_mark, rfl, mGoodV goodC (mAt (i := 10) (by decide +kernel)) (mAt (i := 11) (by decide +kernel)) (mAt (i := 12) (by decide +kernel)) (mAt (i := 6) (by decide +kernel)) (mAt (i := 2) (by decide +kernel)), rfl, rfl, rfl, by decide +kernel, by decide, metX0_mark l D ad tc⟩, fun _ h => absurd h List.not_mem_nil⟩⟩) rfl rfl (by decide +kernel) (by decide) (by decide)
-- FlashBoard$Alu.subtract
def bsX0_subtract : List mBl := [(0, [(0, .iload_n 1, [], 0, 0), (1, .iload_n 2, [], 0, 0), (2, .isub, [], 0, 0), (3, .iload_n 3, [], 0, 0), (4, .isub, [], 0, 0), (5, .istore 4, [], 0, 0), (7, .iload_n 1, [], 0, 0), (8, .invokestatic 15, [], 0, 0), (11, .iload_n 2, [], 0, 0), (12, .invokestatic 15, [], 0, 0), (15, .isub, [], 0, 0), (16, .iload_n 3, [], 0, 0), (17, .isub, [], 0, 0), (18, .istore 5, [], 0, 0), (20, .iload 4, [], 0, 0), (22, .sipush 255, [], 255, 0), (25, .iand, [], 0, 0), (26, .sipush 128, [], 128, 0), (29, .iload 5, [], 0, 0), (31, .bipush (-128), [], (-128), 0), (33, .if_icmp .lt 10, [(43, 0)], 0, 0), (36, .iload 5, [], 0, 0), (38, .bipush 127, [], 127, 0), (40, .if_icmp .le 7, [(47, 0)], 0, 0)], 43),
  (43, [(43, .iconst 1, [], 1, 0), (44, .goto 4, [(48, 0)], 0, 0)], 47),
  (47, [(47, .iconst 0, [], 0, 0)], 48),
  (48, [(48, .invokestatic 19, [], 0, 1), (51, .istore 6, [], 0, 0), (53, .iload 4, [], 0, 0), (55, .ifCond .ge 9, [(64, 0)], 0, 0), (58, .iload 6, [], 0, 0), (60, .iconst 1, [], 1, 0), (61, .ior, [], 0, 0), (62, .istore 6, [], 0, 0)], 64),
  (64, [(64, .iload_n 1, [], 0, 0), (65, .bipush 15, [], 15, 0), (67, .iand, [], 0, 0), (68, .iload_n 2, [], 0, 0), (69, .bipush 15, [], 15, 0), (71, .iand, [], 0, 0), (72, .isub, [], 0, 0), (73, .iload_n 3, [], 0, 0), (74, .isub, [], 0, 0), (75, .ifCond .ge 10, [(85, 0)], 0, 0), (78, .iload 6, [], 0, 0), (80, .bipush 32, [], 32, 0), (82, .ior, [], 0, 0), (83, .istore 6, [], 0, 0)], 85),
  (85, [(85, .aload_n 0, [], 0, 0), (86, .bipush 63, [], 63, 0), (88, .iload 6, [], 0, 0), (90, .invokevirtual 23, [], 0, 2), (93, .iload 4, [], 0, 0), (95, .sipush 255, [], 255, 0), (98, .iand, [], 0, 0), (99, .ireturn, [], 0, 0)], 100)]
def fdX0_subtract : mFt := []
def clX0_subtract : mCt := [(15, 1, 1, 0, spX0_signed), (19, 1, 3, 0, spX0_signs), (23, 0, 2, 3, spX0_mark)]
def spX0_subtract : mSp := mSpOf shC fdX0_subtract clX0_subtract bsX0_subtract 4 (some .int)
abbrev rmX0_subtract : Room := { frames := 1, cells := 0, slots := 0, locals := 23 }
abbrev wkX0_subtract : List Jvm.Cond := .code yX0_subtract cX0_subtract 7 (some .int) :: wC
set_option maxRecDepth 100000 in
set_option maxHeartbeats 4000000 in
theorem metX0_subtract (l : Launch) (D : va_G) (ad : Nat → Nat) (tc : Nat → ClassId) : mMet l D vwCl ad tc shC yX0_subtract wkX0_subtract rmX0_subtract spX0_subtract :=
  mMet_of (own := RX0) (ret := (some .int)) (Fd := fdX0_subtract) (Cl := clX0_subtract) (Ks := []) (Fi := []) (Ci := [(15, 1), (19, 1), (23, 0)]) (bs := bsX0_subtract) rfl (by decide +kernel) rfl (by decide +kernel)
    (fun _ h => absurd h List.not_mem_nil)
    (fun _ h => absurd h List.not_mem_nil)
    (List.forall_mem_cons.mpr ⟨Or.inr ⟨rfl, yX0_signed, cX0_signed, 1, (some .int), wkX0_signed, _, rmX0_signed, mGoodS goodC (mAt (i := 5) (by decide +kernel)) (mAt (i := 7) (by decide +kernel)) (mAt (i := 6) (by decide +kernel)) (mAt (i := 0) (by decide +kernel)), rfl, rfl, rfl, by decide +kernel, by decide, metX0_signed l D ad tc⟩, List.forall_mem_cons.mpr ⟨Or.inr ⟨rfl, yX0_signs, cX0_signs, 4, (some .int), wkX0_signs, _, rmX0_signs, mGoodS goodC (mAt (i := 8) (by decide +kernel)) (mAt (i := 9) (by decide +kernel)) (mAt (i := 6) (by decide +kernel)) (mAt (i := 1) (by decide +kernel)), rfl, rfl, rfl, by decide +kernel, by decide, metX0_signs l D ad tc⟩, List.forall_mem_cons.mpr ⟨Or.inl ⟨rfl, RX0, TX0, 1, yX0_mark, cX0_mark, 3, none, wkX0_mark, _, rmX0_mark, rfl, mGoodV goodC (mAt (i := 10) (by decide +kernel)) (mAt (i := 11) (by decide +kernel)) (mAt (i := 12) (by decide +kernel)) (mAt (i := 6) (by decide +kernel)) (mAt (i := 2) (by decide +kernel)), rfl, rfl, rfl, by decide +kernel, by decide, metX0_mark l D ad tc⟩, fun _ h => absurd h List.not_mem_nil⟩⟩⟩) rfl rfl (by decide +kernel) (by decide) (by decide)
-- FlashBoard$Alu.subtractFromPair
def bsX0_subtractFromPair : List mBl := [(0, [(0, .iload_n 1, [], 0, 0), (1, .iload_n 2, [], 0, 0), (2, .isub, [], 0, 0), (3, .istore_n 3, [], 0, 0), (4, .iload_n 3, [], 0, 0), (5, .ldc 38, [], 65535, 0), (7, .iand, [], 0, 0), (8, .istore 4, [], 0, 0), (10, .aload_n 0, [], 0, 0), (11, .iload 4, [], 0, 0), (13, .iload_n 1, [], 0, 0), (14, .iload 4, [], 0, 0), (16, .iconst (-1), [], (-1), 0), (17, .ixor, [], 0, 0), (18, .iand, [], 0, 0), (19, .ldc 39, [], 32768, 1), (21, .iand, [], 0, 0), (22, .ifCond .eq 7, [(29, 0)], 0, 0), (25, .iconst 1, [], 1, 0), (26, .goto 4, [(30, 0)], 0, 0)], 29),
  (29, [(29, .iconst 0, [], 0, 0)], 30),
  (30, [(30, .iload_n 3, [], 0, 0), (31, .ifCond .ge 7, [(38, 0)], 0, 0), (34, .iconst 1, [], 1, 0), (35, .goto 4, [(39, 0)], 0, 0)], 38),
  (38, [(38, .iconst 0, [], 0, 0)], 39),
  (39, [(39, .invokevirtual 40, [], 0, 0), (42, .iload 4, [], 0, 0), (44, .ireturn, [], 0, 0)], 45)]
def fdX0_subtractFromPair : mFt := []
def clX0_subtractFromPair : mCt := [(40, 0, 3, 3, spX0_markPair)]
def spX0_subtractFromPair : mSp := mSpOf shC fdX0_subtractFromPair clX0_subtractFromPair bsX0_subtractFromPair 3 (some .int)
abbrev rmX0_subtractFromPair : Room := { frames := 2, cells := 0, slots := 0, locals := 46 }
abbrev wkX0_subtractFromPair : List Jvm.Cond := .code yX0_subtractFromPair cX0_subtractFromPair 5 (some .int) :: wC
set_option maxRecDepth 100000 in
set_option maxHeartbeats 4000000 in
theorem metX0_subtractFromPair (l : Launch) (D : va_G) (ad : Nat → Nat) (tc : Nat → ClassId) : mMet l D vwCl ad tc shC yX0_subtractFromPair wkX0_subtractFromPair rmX0_subtractFromPair spX0_subtractFromPair :=
  mMet_of (own := RX0) (ret := (some .int)) (Fd := fdX0_subtractFromPair) (Cl := clX0_subtractFromPair) (Ks := [(38, 65535), (39, 32768)]) (Fi := []) (Ci := [(40, 0)]) (bs := bsX0_subtractFromPair) rfl (by decide +kernel) rfl (by decide +kernel)
    (fun _ h => absurd h List.not_mem_nil)
    (List.forall_mem_cons.mpr ⟨mIn (mAt (i := 16) (by decide +kernel)), List.forall_mem_cons.mpr ⟨mIn (mAt (i := 14) (by decide +kernel)), fun _ h => absurd h List.not_mem_nil⟩⟩)
    (List.forall_mem_cons.mpr ⟨Or.inl ⟨rfl, RX0, TX0, 1, yX0_markPair, cX0_markPair, 4, none, wkX0_markPair, _, rmX0_markPair, rfl, mGoodV goodC (mAt (i := 17) (by decide +kernel)) (mAt (i := 18) (by decide +kernel)) (mAt (i := 19) (by decide +kernel)) (mAt (i := 6) (by decide +kernel)) (mAt (i := 13) (by decide +kernel)), rfl, rfl, rfl, by decide +kernel, by decide, metX0_markPair l D ad tc⟩, fun _ h => absurd h List.not_mem_nil⟩) rfl rfl (by decide +kernel) (by decide) (by decide)
-- FlashBoard$Alu.subtractOn
def bsX0_subtractOn : List mBl := [(0, [(0, .aload_n 0, [], 0, 0), (1, .getfield 9, [], 0, 0), (4, .bipush 95, [], 95, 0), (6, .iaload, [], 0, 0), (7, .iconst 2, [], 2, 0), (8, .iand, [], 0, 0), (9, .istore_n 3, [], 0, 0), (10, .aload_n 0, [], 0, 0), (11, .iload_n 1, [], 0, 0), (12, .iload_n 2, [], 0, 0), (13, .aload_n 0, [], 0, 0), (14, .invokevirtual 27, [], 0, 0), (17, .invokevirtual 31, [], 0, 1), (20, .istore 4, [], 0, 0), (22, .iload_n 3, [], 0, 0), (23, .ifCond .ne 15, [(38, 0)], 0, 0), (26, .aload_n 0, [], 0, 0), (27, .getfield 9, [], 0, 0), (30, .bipush 95, [], 95, 0), (32, .dup2, [], 0, 0), (33, .iaload, [], 0, 0), (34, .bipush (-3), [], (-3), 0), (36, .iand, [], 0, 0), (37, .iastore, [], 0, 0)], 38),
  (38, [(38, .iload 4, [], 0, 0), (40, .ireturn, [], 0, 0)], 41)]
def fdX0_subtractOn : mFt := [(9, 3, 0, 0)]
def clX0_subtractOn : mCt := [(27, 0, 0, 3, spX0_carry), (31, 0, 3, 3, spX0_subtract)]
def spX0_subtractOn : mSp := mSpOf shC fdX0_subtractOn clX0_subtractOn bsX0_subtractOn 3 (some .int)
abbrev rmX0_subtractOn : Room := { frames := 2, cells := 0, slots := 0, locals := 49 }
abbrev wkX0_subtractOn : List Jvm.Cond := .code yX0_subtractOn cX0_subtractOn 5 (some .int) :: wC
set_option maxRecDepth 100000 in
set_option maxHeartbeats 4000000 in
theorem metX0_subtractOn (l : Launch) (D : va_G) (ad : Nat → Nat) (tc : Nat → ClassId) : mMet l D vwCl ad tc shC yX0_subtractOn wkX0_subtractOn rmX0_subtractOn spX0_subtractOn :=
  mMet_of (own := RX0) (ret := (some .int)) (Fd := fdX0_subtractOn) (Cl := clX0_subtractOn) (Ks := []) (Fi := [(9, 0)]) (Ci := [(27, 0), (31, 0)]) (bs := bsX0_subtractOn) rfl (by decide +kernel) rfl (by decide +kernel)
    (List.forall_mem_cons.mpr ⟨⟨RX0, TX0, 1, rfl, by decide, fun w h => mIn (inC_X0 w h), mIn (mAt (i := 3) (by decide +kernel)), fun h => absurd h (by decide)⟩, fun _ h => absurd h List.not_mem_nil⟩)
    (fun _ h => absurd h List.not_mem_nil)
    (List.forall_mem_cons.mpr ⟨Or.inl ⟨rfl, RX0, TX0, 1, yX0_carry, cX0_carry, 1, (some .int), wkX0_carry, _, rmX0_carry, rfl, mGoodV goodC (mAt (i := 32) (by decide +kernel)) (mAt (i := 33) (by decide +kernel)) (mAt (i := 34) (by decide +kernel)) (mAt (i := 6) (by decide +kernel)) (mAt (i := 20) (by decide +kernel)), rfl, rfl, rfl, by decide +kernel, by decide, metX0_carry l D ad tc⟩, List.forall_mem_cons.mpr ⟨Or.inl ⟨rfl, RX0, TX0, 1, yX0_subtract, cX0_subtract, 7, (some .int), wkX0_subtract, _, rmX0_subtract, rfl, mGoodV goodC (mAt (i := 35) (by decide +kernel)) (mAt (i := 36) (by decide +kernel)) (mAt (i := 37) (by decide +kernel)) (mAt (i := 6) (by decide +kernel)) (mAt (i := 29) (by decide +kernel)), rfl, rfl, rfl, by decide +kernel, by decide, metX0_subtract l D ad tc⟩, fun _ h => absurd h List.not_mem_nil⟩⟩) rfl rfl (by decide +kernel) (by decide) (by decide)
-- FlashBoard$Core.pair
def bsX1_pair : List mBl := [(0, [(0, .aload_n 0, [], 0, 0), (1, .getfield 26, [], 0, 0), (4, .iload_n 1, [], 0, 0), (5, .iconst 1, [], 1, 0), (6, .iadd, [], 0, 0), (7, .iaload, [], 0, 0), (8, .bipush 8, [], 8, 0), (10, .ishl, [], 0, 0), (11, .aload_n 0, [], 0, 0), (12, .getfield 26, [], 0, 0), (15, .iload_n 1, [], 0, 0), (16, .iaload, [], 0, 0), (17, .ior, [], 0, 0), (18, .ireturn, [], 0, 0)], 19)]
def fdX1_pair : mFt := [(26, 4, 2, 0)]
def clX1_pair : mCt := []
def spX1_pair : mSp := mSpOf shC fdX1_pair clX1_pair bsX1_pair 2 (some .int)
abbrev rmX1_pair : Room := { frames := 0, cells := 0, slots := 0, locals := 0 }
abbrev wkX1_pair : List Jvm.Cond := .code yX1_pair cX1_pair 2 (some .int) :: wC
set_option maxRecDepth 100000 in
set_option maxHeartbeats 4000000 in
theorem metX1_pair (l : Launch) (D : va_G) (ad : Nat → Nat) (tc : Nat → ClassId) : mMet l D vwCl ad tc shC yX1_pair wkX1_pair rmX1_pair spX1_pair :=
  mMet_of (own := RX1) (ret := (some .int)) (Fd := fdX1_pair) (Cl := clX1_pair) (Ks := []) (Fi := [(26, 0)]) (Ci := []) (bs := bsX1_pair) rfl (by decide +kernel) rfl (by decide +kernel)
    (List.forall_mem_cons.mpr ⟨⟨RX1, TX1, 8, rfl, by decide, fun w h => mIn (inC_X1 w h), mIn (mAt (i := 39) (by decide +kernel)), fun h => absurd h (by decide)⟩, fun _ h => absurd h List.not_mem_nil⟩)
    (fun _ h => absurd h List.not_mem_nil)
    (fun _ h => absurd h List.not_mem_nil) rfl rfl (by decide +kernel) (by decide) (by decide)
-- FlashBoard$Core.first
def bsX1_first : List mBl := [(0, [(0, .iload_n 0, [], 0, 0), (1, .iconst 4, [], 4, 0), (2, .ishr, [], 0, 0), (3, .bipush 31, [], 31, 0), (5, .iand, [], 0, 0), (6, .ireturn, [], 0, 0)], 7)]
def fdX1_first : mFt := []
def clX1_first : mCt := []
def spX1_first : mSp := mSpOf shC fdX1_first clX1_first bsX1_first 1 (some .int)
abbrev rmX1_first : Room := { frames := 0, cells := 0, slots := 0, locals := 0 }
abbrev wkX1_first : List Jvm.Cond := .code yX1_first cX1_first 1 (some .int) :: wC
set_option maxRecDepth 100000 in
set_option maxHeartbeats 4000000 in
theorem metX1_first (l : Launch) (D : va_G) (ad : Nat → Nat) (tc : Nat → ClassId) : mMet l D vwCl ad tc shC yX1_first wkX1_first rmX1_first spX1_first :=
  mMet_of (own := RX1) (ret := (some .int)) (Fd := fdX1_first) (Cl := clX1_first) (Ks := []) (Fi := []) (Ci := []) (bs := bsX1_first) rfl (by decide +kernel) rfl (by decide +kernel)
    (fun _ h => absurd h List.not_mem_nil)
    (fun _ h => absurd h List.not_mem_nil)
    (fun _ h => absurd h List.not_mem_nil) rfl rfl (by decide +kernel) (by decide) (by decide)
-- FlashBoard$Eeprom.storeControl
def bsX2_storeControl : List mBl := [(0, [(0, .aload_n 0, [], 0, 0), (1, .getfield 9, [], 0, 0), (4, .bipush 63, [], 63, 0), (6, .iaload, [], 0, 0), (7, .istore_n 2, [], 0, 0), (8, .iload_n 2, [], 0, 0), (9, .iconst 4, [], 4, 0), (10, .iand, [], 0, 0), (11, .ifCond .eq 7, [(18, 0)], 0, 0), (14, .iconst 1, [], 1, 0), (15, .goto 4, [(19, 0)], 0, 0)], 18),
  (18, [(18, .iconst 0, [], 0, 0)], 19),
  (19, [(19, .istore_n 3, [], 0, 0), (20, .iload_n 2, [], 0, 0), (21, .bipush (-9), [], (-9), 0), (23, .iand, [], 0, 0), (24, .iload_n 1, [], 0, 0), (25, .bipush 8, [], 8, 0), (27, .iand, [], 0, 0), (28, .ior, [], 0, 0), (29, .istore_n 2, [], 0, 0), (30, .iload_n 1, [], 0, 0), (31, .iconst 4, [], 4, 0), (32, .iand, [], 0, 0), (33, .ifCond .eq 12, [(45, 0)], 0, 0), (36, .iload_n 2, [], 0, 0), (37, .iconst 4, [], 4, 0), (38, .ior, [], 0, 0), (39, .istore_n 2, [], 0, 0), (40, .aload_n 0, [], 0, 0), (41, .iconst 4, [], 4, 0), (42, .putfield 24, [], 0, 1)], 45),
  (45, [(45, .iload_n 1, [], 0, 0), (46, .iconst 2, [], 2, 0), (47, .iand, [], 0, 0), (48, .ifCond .eq 55, [(103, 0)], 0, 0), (51, .iload_n 3, [], 0, 0), (52, .ifCond .eq 51, [(103, 0)], 0, 0), (55, .iload_n 2, [], 0, 0), (56, .iconst 2, [], 2, 0), (57, .iand, [], 0, 0), (58, .ifCond .ne 45, [(103, 0)], 0, 0), (61, .aload_n 0, [], 0, 0), (62, .getfield 15, [], 0, 2), (65, .aload_n 0, [], 0, 0), (66, .getfield 9, [], 0, 0), (69, .bipush 65, [], 65, 0), (71, .iaload, [], 0, 0), (72, .sipush 255, [], 255, 0), (75, .iand, [], 0, 0), (76, .aload_n 0, [], 0, 0), (77, .getfield 9, [], 0, 0), (80, .bipush 64, [], 64, 0), (82, .iaload, [], 0, 0), (83, .iastore, [], 0, 0), (84, .iload_n 2, [], 0, 0), (85, .bipush (-5), [], (-5), 0), (87, .iand, [], 0, 0), (88, .iconst 2, [], 2, 0), (89, .ior, [], 0, 0), (90, .istore_n 2, [], 0, 0), (91, .aload_n 0, [], 0, 0), (92, .iconst 0, [], 0, 0), (93, .putfield 24, [], 0, 1), (96, .aload_n 0, [], 0, 0), (97, .sipush 3400, [], 3400, 0), (100, .putfield 28, [], 0, 3)], 103),
  (103, [(103, .aload_n 0, [], 0, 0), (104, .getfield 9, [], 0, 0), (107, .bipush 63, [], 63, 0), (109, .iload_n 2, [], 0, 0), (110, .iastore, [], 0, 0), (111, .iload_n 1, [], 0, 0), (112, .iconst 1, [], 1, 0), (113, .iand, [], 0, 0), (114, .ifCond .eq 9, [(123, 0)], 0, 0), (117, .iload_n 2, [], 0, 0), (118, .iconst 2, [], 2, 0), (119, .iand, [], 0, 0), (120, .ifCond .eq 5, [(125, 0)], 0, 0)], 123),
  (123, [(123, .iconst 0, [], 0, 0), (124, .ireturn, [], 0, 0)], 125),
  (125, [(125, .aload_n 0, [], 0, 0), (126, .getfield 9, [], 0, 0), (129, .bipush 64, [], 64, 0), (131, .aload_n 0, [], 0, 0), (132, .getfield 15, [], 0, 2), (135, .aload_n 0, [], 0, 0), (136, .getfield 9, [], 0, 0), (139, .bipush 65, [], 65, 0), (141, .iaload, [], 0, 0), (142, .sipush 255, [], 255, 0), (145, .iand, [], 0, 0), (146, .iaload, [], 0, 0), (147, .iastore, [], 0, 0), (148, .iconst 4, [], 4, 0), (149, .ireturn, [], 0, 0)], 150)]
def fdX2_storeControl : mFt := [(9, 5, 0, 0), (24, 5, 2, 1), (15, 5, 1, 0), (28, 5, 3, 1)]
def clX2_storeControl : mCt := []
def spX2_storeControl : mSp := mSpOf shC fdX2_storeControl clX2_storeControl bsX2_storeControl 2 (some .int)
abbrev rmX2_storeControl : Room := { frames := 0, cells := 0, slots := 0, locals := 0 }
abbrev wkX2_storeControl : List Jvm.Cond := .code yX2_storeControl cX2_storeControl 4 (some .int) :: wC
set_option maxRecDepth 100000 in
set_option maxHeartbeats 4000000 in
theorem metX2_storeControl (l : Launch) (D : va_G) (ad : Nat → Nat) (tc : Nat → ClassId) : mMet l D vwCl ad tc shC yX2_storeControl wkX2_storeControl rmX2_storeControl spX2_storeControl :=
  mMet_of (own := RX2) (ret := (some .int)) (Fd := fdX2_storeControl) (Cl := clX2_storeControl) (Ks := []) (Fi := [(9, 0), (24, 0), (15, 0), (28, 0)]) (Ci := []) (bs := bsX2_storeControl) rfl (by decide +kernel) rfl (by decide +kernel)
    (List.forall_mem_cons.mpr ⟨⟨RX2, TX2, 4, rfl, by decide, fun w h => mIn (inC_X2 w h), mIn (mAt (i := 42) (by decide +kernel)), fun h => absurd h (by decide)⟩, List.forall_mem_cons.mpr ⟨⟨RX2, TX2, 4, rfl, by decide, fun w h => mIn (inC_X2 w h), mIn (mAt (i := 43) (by decide +kernel)), fun _ => ⟨tyX2, tyX2_ok, nmX2, rfl, by decide +kernel⟩⟩, List.forall_mem_cons.mpr ⟨⟨RX2, TX2, 4, rfl, by decide, fun w h => mIn (inC_X2 w h), mIn (mAt (i := 44) (by decide +kernel)), fun h => absurd h (by decide)⟩, List.forall_mem_cons.mpr ⟨⟨RX2, TX2, 4, rfl, by decide, fun w h => mIn (inC_X2 w h), mIn (mAt (i := 45) (by decide +kernel)), fun _ => ⟨tyX2, tyX2_ok, nmX2, rfl, by decide +kernel⟩⟩, fun _ h => absurd h List.not_mem_nil⟩⟩⟩⟩)
    (fun _ h => absurd h List.not_mem_nil)
    (fun _ h => absurd h List.not_mem_nil) rfl rfl (by decide +kernel) (by decide) (by decide)
-- FlashBoard$Eeprom.storeOther
def bsX2_storeOther : List mBl := [(0, [(0, .aload_n 0, [], 0, 0), (1, .getfield 9, [], 0, 0), (4, .bipush 63, [], 63, 0), (6, .iaload, [], 0, 0), (7, .iconst 2, [], 2, 0), (8, .iand, [], 0, 0), (9, .ifCond .ne 10, [(19, 0)], 0, 0), (12, .aload_n 0, [], 0, 0), (13, .getfield 9, [], 0, 0), (16, .iload_n 1, [], 0, 0), (17, .iload_n 2, [], 0, 0), (18, .iastore, [], 0, 0)], 19),
  (19, [(19, .return_, [], 0, 0)], 20)]
def fdX2_storeOther : mFt := [(9, 5, 0, 0)]
def clX2_storeOther : mCt := []
def spX2_storeOther : mSp := mSpOf shC fdX2_storeOther clX2_storeOther bsX2_storeOther 3 none
abbrev rmX2_storeOther : Room := { frames := 0, cells := 0, slots := 0, locals := 0 }
abbrev wkX2_storeOther : List Jvm.Cond := .code yX2_storeOther cX2_storeOther 3 none :: wC
set_option maxRecDepth 100000 in
set_option maxHeartbeats 4000000 in
theorem metX2_storeOther (l : Launch) (D : va_G) (ad : Nat → Nat) (tc : Nat → ClassId) : mMet l D vwCl ad tc shC yX2_storeOther wkX2_storeOther rmX2_storeOther spX2_storeOther :=
  mMet_of (own := RX2) (ret := none) (Fd := fdX2_storeOther) (Cl := clX2_storeOther) (Ks := []) (Fi := [(9, 0)]) (Ci := []) (bs := bsX2_storeOther) rfl (by decide +kernel) rfl (by decide +kernel)
    (List.forall_mem_cons.mpr ⟨⟨RX2, TX2, 4, rfl, by decide, fun w h => mIn (inC_X2 w h), mIn (mAt (i := 42) (by decide +kernel)), fun h => absurd h (by decide)⟩, fun _ h => absurd h List.not_mem_nil⟩)
    (fun _ h => absurd h List.not_mem_nil)
    (fun _ h => absurd h List.not_mem_nil) rfl rfl (by decide +kernel) (by decide) (by decide)
-- FlashBoard$Memory.storeVectorControl
def bsX5_storeVectorControl : List mBl := [(0, [(0, .aload_n 0, [], 0, 0), (1, .getfield 9, [], 0, 0), (4, .bipush 85, [], 85, 0), (6, .iaload, [], 0, 0), (7, .istore_n 2, [], 0, 0), (8, .iload_n 1, [], 0, 0), (9, .iconst 1, [], 1, 0), (10, .iand, [], 0, 0), (11, .ifCond .eq 21, [(32, 0)], 0, 0), (14, .aload_n 0, [], 0, 0), (15, .getfield 9, [], 0, 0), (18, .bipush 85, [], 85, 0), (20, .iload_n 2, [], 0, 0), (21, .iconst 1, [], 1, 0), (22, .ior, [], 0, 0), (23, .iastore, [], 0, 0), (24, .aload_n 0, [], 0, 0), (25, .iconst 4, [], 4, 0), (26, .putfield 61, [], 0, 1), (29, .goto 24, [(53, 0)], 0, 0)], 32),
  (32, [(32, .iload_n 2, [], 0, 0), (33, .iconst 1, [], 1, 0), (34, .iand, [], 0, 0), (35, .ifCond .eq 18, [(53, 0)], 0, 0), (38, .aload_n 0, [], 0, 0), (39, .getfield 9, [], 0, 0), (42, .bipush 85, [], 85, 0), (44, .iload_n 1, [], 0, 0), (45, .iconst 2, [], 2, 0), (46, .iand, [], 0, 0), (47, .iastore, [], 0, 0), (48, .aload_n 0, [], 0, 0), (49, .iconst 0, [], 0, 0), (50, .putfield 61, [], 0, 1)], 53),
  (53, [(53, .return_, [], 0, 0)], 54)]
def fdX5_storeVectorControl : mFt := [(9, 8, 0, 0), (61, 8, 7, 1)]
def clX5_storeVectorControl : mCt := []
def spX5_storeVectorControl : mSp := mSpOf shC fdX5_storeVectorControl clX5_storeVectorControl bsX5_storeVectorControl 2 none
abbrev rmX5_storeVectorControl : Room := { frames := 0, cells := 0, slots := 0, locals := 0 }
abbrev wkX5_storeVectorControl : List Jvm.Cond := .code yX5_storeVectorControl cX5_storeVectorControl 3 none :: wC
set_option maxRecDepth 100000 in
set_option maxHeartbeats 4000000 in
theorem metX5_storeVectorControl (l : Launch) (D : va_G) (ad : Nat → Nat) (tc : Nat → ClassId) : mMet l D vwCl ad tc shC yX5_storeVectorControl wkX5_storeVectorControl rmX5_storeVectorControl spX5_storeVectorControl :=
  mMet_of (own := RX5) (ret := none) (Fd := fdX5_storeVectorControl) (Cl := clX5_storeVectorControl) (Ks := []) (Fi := [(9, 0), (61, 0)]) (Ci := []) (bs := bsX5_storeVectorControl) rfl (by decide +kernel) rfl (by decide +kernel)
    (List.forall_mem_cons.mpr ⟨⟨RX5, TX5, 9, rfl, by decide, fun w h => mIn (inC_X5 w h), mIn (mAt (i := 48) (by decide +kernel)), fun h => absurd h (by decide)⟩, List.forall_mem_cons.mpr ⟨⟨RX5, TX5, 9, rfl, by decide, fun w h => mIn (inC_X5 w h), mIn (mAt (i := 49) (by decide +kernel)), fun _ => ⟨tyX5, tyX5_ok, nmX5, rfl, by decide +kernel⟩⟩, fun _ h => absurd h List.not_mem_nil⟩⟩)
    (fun _ h => absurd h List.not_mem_nil)
    (fun _ h => absurd h List.not_mem_nil) rfl rfl (by decide +kernel) (by decide) (by decide)
-- FlashBoard$Flash.storeControl
def bsX3_storeControl : List mBl := [(0, [(0, .aload_n 0, [], 0, 0), (1, .getfield 9, [], 0, 0), (4, .bipush 87, [], 87, 0), (6, .iaload, [], 0, 0), (7, .istore_n 2, [], 0, 0), (8, .aload_n 0, [], 0, 0), (9, .getfield 47, [], 0, 1), (12, .ifCond .le 21, [(33, 0)], 0, 0), (15, .aload_n 0, [], 0, 0), (16, .getfield 9, [], 0, 0), (19, .bipush 87, [], 87, 0), (21, .iload_n 2, [], 0, 0), (22, .bipush 127, [], 127, 0), (24, .iand, [], 0, 0), (25, .iload_n 1, [], 0, 0), (26, .sipush 128, [], 128, 0), (29, .iand, [], 0, 0), (30, .ior, [], 0, 0), (31, .iastore, [], 0, 0), (32, .return_, [], 0, 0)], 33),
  (33, [(33, .aload_n 0, [], 0, 0), (34, .getfield 9, [], 0, 0), (37, .bipush 87, [], 87, 0), (39, .iload_n 2, [], 0, 0), (40, .bipush 64, [], 64, 0), (42, .iand, [], 0, 0), (43, .iload_n 1, [], 0, 0), (44, .sipush 159, [], 159, 0), (47, .iand, [], 0, 0), (48, .ior, [], 0, 0), (49, .iastore, [], 0, 0), (50, .aload_n 0, [], 0, 0), (51, .iload_n 1, [], 0, 0), (52, .iconst 1, [], 1, 0), (53, .iand, [], 0, 0), (54, .ifCond .eq 7, [(61, 0)], 0, 0), (57, .iconst 4, [], 4, 0), (58, .goto 4, [(62, 0)], 0, 0)], 61),
  (61, [(61, .iconst 0, [], 0, 0)], 62),
  (62, [(62, .putfield 44, [], 0, 2), (65, .return_, [], 0, 0)], 66)]
def fdX3_storeControl : mFt := [(9, 6, 1, 0), (47, 6, 7, 1), (44, 6, 6, 1)]
def clX3_storeControl : mCt := []
def spX3_storeControl : mSp := mSpOf shC fdX3_storeControl clX3_storeControl bsX3_storeControl 2 none
abbrev rmX3_storeControl : Room := { frames := 0, cells := 0, slots := 0, locals := 0 }
abbrev wkX3_storeControl : List Jvm.Cond := .code yX3_storeControl cX3_storeControl 3 none :: wC
set_option maxRecDepth 100000 in
set_option maxHeartbeats 4000000 in
theorem metX3_storeControl (l : Launch) (D : va_G) (ad : Nat → Nat) (tc : Nat → ClassId) : mMet l D vwCl ad tc shC yX3_storeControl wkX3_storeControl rmX3_storeControl spX3_storeControl :=
  mMet_of (own := RX3) (ret := none) (Fd := fdX3_storeControl) (Cl := clX3_storeControl) (Ks := []) (Fi := [(9, 0), (47, 0), (44, 0)]) (Ci := []) (bs := bsX3_storeControl) rfl (by decide +kernel) rfl (by decide +kernel)
    (List.forall_mem_cons.mpr ⟨⟨RX3, TX3, 8, rfl, by decide, fun w h => mIn (inC_X3 w h), mIn (mAt (i := 51) (by decide +kernel)), fun h => absurd h (by decide)⟩, List.forall_mem_cons.mpr ⟨⟨RX3, TX3, 8, rfl, by decide, fun w h => mIn (inC_X3 w h), mIn (mAt (i := 52) (by decide +kernel)), fun _ => ⟨tyX3, tyX3_ok, nmX3, rfl, by decide +kernel⟩⟩, List.forall_mem_cons.mpr ⟨⟨RX3, TX3, 8, rfl, by decide, fun w h => mIn (inC_X3 w h), mIn (mAt (i := 53) (by decide +kernel)), fun _ => ⟨tyX3, tyX3_ok, nmX3, rfl, by decide +kernel⟩⟩, fun _ h => absurd h List.not_mem_nil⟩⟩⟩)
    (fun _ h => absurd h List.not_mem_nil)
    (fun _ h => absurd h List.not_mem_nil) rfl rfl (by decide +kernel) (by decide) (by decide)
-- FlashBoard$Watchdog.storeControl
def bsX7_storeControl : List mBl := [(0, [(0, .aload_n 0, [], 0, 0), (1, .getfield 9, [], 0, 0), (4, .bipush 96, [], 96, 0), (6, .iaload, [], 0, 0), (7, .istore_n 2, [], 0, 0), (8, .iload_n 2, [], 0, 0), (9, .bipush 16, [], 16, 0), (11, .iand, [], 0, 0), (12, .ifCond .eq 7, [(19, 0)], 0, 0), (15, .iconst 1, [], 1, 0), (16, .goto 4, [(20, 0)], 0, 0)], 19),
  (19, [(19, .iconst 0, [], 0, 0)], 20),
  (20, [(20, .istore_n 3, [], 0, 0), (21, .iload_n 2, [], 0, 0), (22, .iload_n 1, [], 0, 0), (23, .sipush 128, [], 128, 0), (26, .iand, [], 0, 0), (27, .iconst (-1), [], (-1), 0), (28, .ixor, [], 0, 0), (29, .iand, [], 0, 0), (30, .istore_n 2, [], 0, 0), (31, .iload_n 2, [], 0, 0), (32, .bipush (-65), [], (-65), 0), (34, .iand, [], 0, 0), (35, .iload_n 1, [], 0, 0), (36, .bipush 64, [], 64, 0), (38, .iand, [], 0, 0), (39, .ior, [], 0, 0), (40, .istore_n 2, [], 0, 0), (41, .iload_n 3, [], 0, 0), (42, .ifCond .eq 40, [(82, 0)], 0, 0), (45, .iload_n 1, [], 0, 0), (46, .bipush 16, [], 16, 0), (48, .iand, [], 0, 0), (49, .ifCond .ne 33, [(82, 0)], 0, 0), (52, .iload_n 2, [], 0, 0), (53, .sipush 192, [], 192, 0), (56, .iand, [], 0, 0), (57, .iload_n 1, [], 0, 0), (58, .bipush 47, [], 47, 0), (60, .iand, [], 0, 0), (61, .ior, [], 0, 0), (62, .aload_n 0, [], 0, 0), (63, .getfield 9, [], 0, 0), (66, .bipush 84, [], 84, 0), (68, .iaload, [], 0, 0), (69, .bipush 8, [], 8, 0), (71, .iand, [], 0, 0), (72, .ior, [], 0, 0), (73, .istore_n 2, [], 0, 0), (74, .aload_n 0, [], 0, 0), (75, .iconst 0, [], 0, 0), (76, .putfield 19, [], 0, 1), (79, .goto 27, [(106, 0)], 0, 0)], 82),
  (82, [(82, .iload_n 1, [], 0, 0), (83, .bipush 16, [], 16, 0), (85, .iand, [], 0, 0), (86, .ifCond .eq 20, [(106, 0)], 0, 0), (89, .iload_n 1, [], 0, 0), (90, .bipush 8, [], 8, 0), (92, .iand, [], 0, 0), (93, .ifCond .eq 13, [(106, 0)], 0, 0), (96, .iload_n 2, [], 0, 0), (97, .bipush 16, [], 16, 0), (99, .ior, [], 0, 0), (100, .istore_n 2, [], 0, 0), (101, .aload_n 0, [], 0, 0), (102, .iconst 4, [], 4, 0), (103, .putfield 19, [], 0, 1)], 106),
  (106, [(106, .aload_n 0, [], 0, 0), (107, .getfield 9, [], 0, 0), (110, .bipush 96, [], 96, 0), (112, .iload_n 2, [], 0, 0), (113, .iastore, [], 0, 0), (114, .return_, [], 0, 0)], 115)]
def fdX7_storeControl : mFt := [(9, 10, 0, 0), (19, 10, 2, 1)]
def clX7_storeControl : mCt := []
def spX7_storeControl : mSp := mSpOf shC fdX7_storeControl clX7_storeControl bsX7_storeControl 2 none
abbrev rmX7_storeControl : Room := { frames := 0, cells := 0, slots := 0, locals := 0 }
abbrev wkX7_storeControl : List Jvm.Cond := .code yX7_storeControl cX7_storeControl 4 none :: wC
set_option maxRecDepth 100000 in
set_option maxHeartbeats 4000000 in
theorem metX7_storeControl (l : Launch) (D : va_G) (ad : Nat → Nat) (tc : Nat → ClassId) : mMet l D vwCl ad tc shC yX7_storeControl wkX7_storeControl rmX7_storeControl spX7_storeControl :=
  mMet_of (own := RX7) (ret := none) (Fd := fdX7_storeControl) (Cl := clX7_storeControl) (Ks := []) (Fi := [(9, 0), (19, 0)]) (Ci := []) (bs := bsX7_storeControl) rfl (by decide +kernel) rfl (by decide +kernel)
    (List.forall_mem_cons.mpr ⟨⟨RX7, TX7, 3, rfl, by decide, fun w h => mIn (inC_X7 w h), mIn (mAt (i := 55) (by decide +kernel)), fun h => absurd h (by decide)⟩, List.forall_mem_cons.mpr ⟨⟨RX7, TX7, 3, rfl, by decide, fun w h => mIn (inC_X7 w h), mIn (mAt (i := 56) (by decide +kernel)), fun _ => ⟨tyX7, tyX7_ok, nmX7, rfl, by decide +kernel⟩⟩, fun _ h => absurd h List.not_mem_nil⟩⟩)
    (fun _ h => absurd h List.not_mem_nil)
    (fun _ h => absurd h List.not_mem_nil) rfl rfl (by decide +kernel) (by decide) (by decide)
-- FlashBoard$Line.storeState
def bsX4_storeState : List mBl := [(0, [(0, .aload_n 0, [], 0, 0), (1, .getfield 9, [], 0, 0), (4, .sipush 192, [], 192, 0), (7, .iaload, [], 0, 0), (8, .bipush (-3), [], (-3), 0), (10, .iand, [], 0, 0), (11, .iload_n 1, [], 0, 0), (12, .bipush 64, [], 64, 0), (14, .iand, [], 0, 0), (15, .iconst (-1), [], (-1), 0), (16, .ixor, [], 0, 0), (17, .iand, [], 0, 0), (18, .istore_n 2, [], 0, 0), (19, .aload_n 0, [], 0, 0), (20, .getfield 9, [], 0, 0), (23, .sipush 192, [], 192, 0), (26, .iload_n 2, [], 0, 0), (27, .iload_n 1, [], 0, 0), (28, .iconst 2, [], 2, 0), (29, .iand, [], 0, 0), (30, .ior, [], 0, 0), (31, .iastore, [], 0, 0), (32, .return_, [], 0, 0)], 33)]
def fdX4_storeState : mFt := [(9, 7, 0, 0)]
def clX4_storeState : mCt := []
def spX4_storeState : mSp := mSpOf shC fdX4_storeState clX4_storeState bsX4_storeState 2 none
abbrev rmX4_storeState : Room := { frames := 0, cells := 0, slots := 0, locals := 0 }
abbrev wkX4_storeState : List Jvm.Cond := .code yX4_storeState cX4_storeState 3 none :: wC
set_option maxRecDepth 100000 in
set_option maxHeartbeats 4000000 in
theorem metX4_storeState (l : Launch) (D : va_G) (ad : Nat → Nat) (tc : Nat → ClassId) : mMet l D vwCl ad tc shC yX4_storeState wkX4_storeState rmX4_storeState spX4_storeState :=
  mMet_of (own := RX4) (ret := none) (Fd := fdX4_storeState) (Cl := clX4_storeState) (Ks := []) (Fi := [(9, 0)]) (Ci := []) (bs := bsX4_storeState) rfl (by decide +kernel) rfl (by decide +kernel)
    (List.forall_mem_cons.mpr ⟨⟨RX4, TX4, 15, rfl, by decide, fun w h => mIn (inC_X4 w h), mIn (mAt (i := 58) (by decide +kernel)), fun h => absurd h (by decide)⟩, fun _ h => absurd h List.not_mem_nil⟩)
    (fun _ h => absurd h List.not_mem_nil)
    (fun _ h => absurd h List.not_mem_nil) rfl rfl (by decide +kernel) (by decide) (by decide)
-- FlashBoard$Line.storeParts
def bsX4_storeParts : List mBl := [(0, [(0, .aload_n 0, [], 0, 0), (1, .getfield 9, [], 0, 0), (4, .sipush 193, [], 193, 0), (7, .iload_n 1, [], 0, 0), (8, .iastore, [], 0, 0), (9, .iload_n 1, [], 0, 0), (10, .bipush 8, [], 8, 0), (12, .iand, [], 0, 0), (13, .ifCond .eq 4, [(17, 0)], 0, 0), (16, .return_, [], 0, 0)], 17),
  (17, [(17, .aload_n 0, [], 0, 0), (18, .iconst 0, [], 0, 0), (19, .putfield 21, [], 0, 1), (22, .aload_n 0, [], 0, 0), (23, .getfield 9, [], 0, 0), (26, .sipush 192, [], 192, 0), (29, .dup2, [], 0, 0), (30, .iaload, [], 0, 0), (31, .bipush 32, [], 32, 0), (33, .ior, [], 0, 0), (34, .iastore, [], 0, 0), (35, .return_, [], 0, 0)], 36)]
def fdX4_storeParts : mFt := [(9, 7, 0, 0), (21, 7, 7, 2)]
def clX4_storeParts : mCt := []
def spX4_storeParts : mSp := mSpOf shC fdX4_storeParts clX4_storeParts bsX4_storeParts 2 none
abbrev rmX4_storeParts : Room := { frames := 0, cells := 0, slots := 0, locals := 0 }
abbrev wkX4_storeParts : List Jvm.Cond := .code yX4_storeParts cX4_storeParts 2 none :: wC
set_option maxRecDepth 100000 in
set_option maxHeartbeats 4000000 in
theorem metX4_storeParts (l : Launch) (D : va_G) (ad : Nat → Nat) (tc : Nat → ClassId) : mMet l D vwCl ad tc shC yX4_storeParts wkX4_storeParts rmX4_storeParts spX4_storeParts :=
  mMet_of (own := RX4) (ret := none) (Fd := fdX4_storeParts) (Cl := clX4_storeParts) (Ks := []) (Fi := [(9, 0), (21, 0)]) (Ci := []) (bs := bsX4_storeParts) rfl (by decide +kernel) rfl (by decide +kernel)
    (List.forall_mem_cons.mpr ⟨⟨RX4, TX4, 15, rfl, by decide, fun w h => mIn (inC_X4 w h), mIn (mAt (i := 58) (by decide +kernel)), fun h => absurd h (by decide)⟩, List.forall_mem_cons.mpr ⟨⟨RX4, TX4, 15, rfl, by decide, fun w h => mIn (inC_X4 w h), mIn (mAt (i := 60) (by decide +kernel)), fun _ => ⟨tyX4, tyX4_ok, nmX4, rfl, by decide +kernel⟩⟩, fun _ h => absurd h List.not_mem_nil⟩⟩)
    (fun _ h => absurd h List.not_mem_nil)
    (fun _ h => absurd h List.not_mem_nil) rfl rfl (by decide +kernel) (by decide) (by decide)
-- FlashBoard$Line.storeData
def bsX4_storeData : List mBl := [(0, [(0, .aload_n 0, [], 0, 0), (1, .getfield 9, [], 0, 0), (4, .sipush 193, [], 193, 0), (7, .iaload, [], 0, 0), (8, .bipush 8, [], 8, 0), (10, .iand, [], 0, 0), (11, .ifCond .eq 10, [(21, 0)], 0, 0), (14, .aload_n 0, [], 0, 0), (15, .getfield 21, [], 0, 1), (18, .ifCond .eq 4, [(22, 0)], 0, 0)], 21),
  (21, [(21, .return_, [], 0, 0)], 22),
  (22, [(22, .aload_n 0, [], 0, 0), (23, .iload_n 1, [], 0, 0), (24, .putfield 41, [], 0, 2), (27, .aload_n 0, [], 0, 0), (28, .iconst 1, [], 1, 0), (29, .putfield 21, [], 0, 1), (32, .aload_n 0, [], 0, 0), (33, .getfield 9, [], 0, 0), (36, .sipush 192, [], 192, 0), (39, .dup2, [], 0, 0), (40, .iaload, [], 0, 0), (41, .bipush (-33), [], (-33), 0), (43, .iand, [], 0, 0), (44, .iastore, [], 0, 0), (45, .return_, [], 0, 0)], 46)]
def fdX4_storeData : mFt := [(9, 7, 0, 0), (21, 7, 7, 2), (41, 7, 6, 1)]
def clX4_storeData : mCt := []
def spX4_storeData : mSp := mSpOf shC fdX4_storeData clX4_storeData bsX4_storeData 2 none
abbrev rmX4_storeData : Room := { frames := 0, cells := 0, slots := 0, locals := 0 }
abbrev wkX4_storeData : List Jvm.Cond := .code yX4_storeData cX4_storeData 2 none :: wC
set_option maxRecDepth 100000 in
set_option maxHeartbeats 4000000 in
theorem metX4_storeData (l : Launch) (D : va_G) (ad : Nat → Nat) (tc : Nat → ClassId) : mMet l D vwCl ad tc shC yX4_storeData wkX4_storeData rmX4_storeData spX4_storeData :=
  mMet_of (own := RX4) (ret := none) (Fd := fdX4_storeData) (Cl := clX4_storeData) (Ks := []) (Fi := [(9, 0), (21, 0), (41, 0)]) (Ci := []) (bs := bsX4_storeData) rfl (by decide +kernel) rfl (by decide +kernel)
    (List.forall_mem_cons.mpr ⟨⟨RX4, TX4, 15, rfl, by decide, fun w h => mIn (inC_X4 w h), mIn (mAt (i := 58) (by decide +kernel)), fun h => absurd h (by decide)⟩, List.forall_mem_cons.mpr ⟨⟨RX4, TX4, 15, rfl, by decide, fun w h => mIn (inC_X4 w h), mIn (mAt (i := 60) (by decide +kernel)), fun _ => ⟨tyX4, tyX4_ok, nmX4, rfl, by decide +kernel⟩⟩, List.forall_mem_cons.mpr ⟨⟨RX4, TX4, 15, rfl, by decide, fun w h => mIn (inC_X4 w h), mIn (mAt (i := 62) (by decide +kernel)), fun _ => ⟨tyX4, tyX4_ok, nmX4, rfl, by decide +kernel⟩⟩, fun _ h => absurd h List.not_mem_nil⟩⟩⟩)
    (fun _ h => absurd h List.not_mem_nil)
    (fun _ h => absurd h List.not_mem_nil) rfl rfl (by decide +kernel) (by decide) (by decide)
-- FlashBoard$Memory.store
def bsX5_store : List mBl := [(0, [(0, .iload_n 1, [], 0, 0), (1, .ifCond .lt 10, [(11, 0)], 0, 0), (4, .iload_n 1, [], 0, 0), (5, .sipush 1280, [], 1280, 0), (8, .if_icmp .lt 4, [(12, 0)], 0, 0)], 11),
  (11, [(11, .return_, [], 0, 0)], 12),
  (12, [(12, .iload_n 1, [], 0, 0), (13, .bipush 32, [], 32, 0), (15, .if_icmp .lt 10, [(25, 0)], 0, 0), (18, .iload_n 1, [], 0, 0), (19, .sipush 256, [], 256, 0), (22, .if_icmp .lt 11, [(33, 0)], 0, 0)], 25),
  (25, [(25, .aload_n 0, [], 0, 0), (26, .getfield 9, [], 0, 0), (29, .iload_n 1, [], 0, 0), (30, .iload_n 2, [], 0, 0), (31, .iastore, [], 0, 0), (32, .return_, [], 0, 0)], 33),
  (33, [(33, .iload_n 1, [], 0, 0), (34, .lookupswitch 383 #[(35, 244), (36, 234), (37, 234), (53, 258), (62, 234), (63, 274), (64, 294), (65, 294), (68, 234), (69, 234), (70, 234), (71, 234), (74, 234), (75, 234), (84, 306), (85, 320), (87, 328), (93, 234), (94, 234), (95, 234), (96, 339), (110, 234), (192, 350), (193, 361), (194, 234), (196, 234), (197, 234), (198, 372)], [(278, 35), (268, 36), (268, 37), (292, 53), (268, 62), (308, 63), (328, 64), (328, 65), (268, 68), (268, 69), (268, 70), (268, 71), (268, 74), (268, 75), (340, 84), (354, 85), (362, 87), (268, 93), (268, 94), (268, 95), (373, 96), (268, 110), (384, 192), (395, 193), (268, 194), (268, 196), (268, 197), (406, 198), (417, 0)], 0, 234)], 268),
  (268, [(268, .aload_n 0, [], 0, 0), (269, .getfield 9, [], 0, 0), (272, .iload_n 1, [], 0, 0), (273, .iload_n 2, [], 0, 0), (274, .iastore, [], 0, 0), (275, .goto 142, [(417, 0)], 0, 0)], 278),
  (278, [(278, .aload_n 0, [], 0, 0), (279, .getfield 9, [], 0, 0), (282, .bipush 37, [], 37, 0), (284, .dup2, [], 0, 0), (285, .iaload, [], 0, 0), (286, .iload_n 2, [], 0, 0), (287, .ixor, [], 0, 0), (288, .iastore, [], 0, 0), (289, .goto 128, [(417, 0)], 0, 0)], 292),
  (292, [(292, .aload_n 0, [], 0, 0), (293, .getfield 9, [], 0, 0), (296, .bipush 53, [], 53, 0), (298, .dup2, [], 0, 0), (299, .iaload, [], 0, 0), (300, .iload_n 2, [], 0, 0), (301, .iconst (-1), [], (-1), 0), (302, .ixor, [], 0, 0), (303, .iand, [], 0, 0), (304, .iastore, [], 0, 0), (305, .goto 112, [(417, 0)], 0, 0)], 308),
  (308, [(308, .aload_n 0, [], 0, 0), (309, .dup, [], 0, 0), (310, .getfield 90, [], 0, 1), (313, .aload_n 0, [], 0, 0), (314, .getfield 41, [], 0, 2), (317, .iload_n 2, [], 0, 0), (318, .invokevirtual 93, [], 0, 0), (321, .iadd, [], 0, 0), (322, .putfield 90, [], 0, 1), (325, .goto 92, [(417, 0)], 0, 0)], 328),
  (328, [(328, .aload_n 0, [], 0, 0), (329, .getfield 41, [], 0, 2), (332, .iload_n 1, [], 0, 0), (333, .iload_n 2, [], 0, 0), (334, .invokevirtual 97, [], 0, 1), (337, .goto 80, [(417, 0)], 0, 0)], 340),
  (340, [(340, .aload_n 0, [], 0, 0), (341, .getfield 9, [], 0, 0), (344, .bipush 84, [], 84, 0), (346, .dup2, [], 0, 0), (347, .iaload, [], 0, 0), (348, .iload_n 2, [], 0, 0), (349, .iand, [], 0, 0), (350, .iastore, [], 0, 0), (351, .goto 66, [(417, 0)], 0, 0)], 354),
  (354, [(354, .aload_n 0, [], 0, 0), (355, .iload_n 2, [], 0, 0), (356, .invokevirtual 101, [], 0, 2), (359, .goto 58, [(417, 0)], 0, 0)], 362),
  (362, [(362, .aload_n 0, [], 0, 0), (363, .getfield 20, [], 0, 3), (366, .iload_n 2, [], 0, 0), (367, .invokevirtual 105, [], 0, 3), (370, .goto 47, [(417, 0)], 0, 0)], 373),
  (373, [(373, .aload_n 0, [], 0, 0), (374, .getfield 48, [], 0, 4), (377, .iload_n 2, [], 0, 0), (378, .invokevirtual 107, [], 0, 4), (381, .goto 36, [(417, 0)], 0, 0)], 384),
  (384, [(384, .aload_n 0, [], 0, 0), (385, .getfield 34, [], 0, 5), (388, .iload_n 2, [], 0, 0), (389, .invokevirtual 108, [], 0, 5), (392, .goto 25, [(417, 0)], 0, 0)], 395),
  (395, [(395, .aload_n 0, [], 0, 0), (396, .getfield 34, [], 0, 5), (399, .iload_n 2, [], 0, 0), (400, .invokevirtual 111, [], 0, 6), (403, .goto 14, [(417, 0)], 0, 0)], 406),
  (406, [(406, .aload_n 0, [], 0, 0), (407, .getfield 34, [], 0, 5), (410, .iload_n 2, [], 0, 0), (411, .invokevirtual 114, [], 0, 7), (414, .goto 3, [(417, 0)], 0, 0)], 417),
  (417, [(417, .return_, [], 0, 0)], 418)]
def fdX5_store : mFt := [(9, 8, 0, 0), (90, 8, 8, 1), (41, 8, 4, 0), (20, 8, 1, 0), (48, 8, 5, 0), (34, 8, 3, 0)]
def clX5_store : mCt := [(93, 0, 1, 5, spX2_storeControl), (97, 0, 2, 5, spX2_storeOther), (101, 0, 1, 8, spX5_storeVectorControl), (105, 0, 1, 6, spX3_storeControl), (107, 0, 1, 10, spX7_storeControl), (108, 0, 1, 7, spX4_storeState), (111, 0, 1, 7, spX4_storeParts), (114, 0, 1, 7, spX4_storeData)]
def spX5_store : mSp := mSpOf shC fdX5_store clX5_store bsX5_store 3 none
abbrev rmX5_store : Room := { frames := 1, cells := 0, slots := 0, locals := 23 }
abbrev wkX5_store : List Jvm.Cond := .code yX5_store cX5_store 3 none :: wC
set_option maxRecDepth 100000 in
set_option maxHeartbeats 4000000 in
theorem metX5_store (l : Launch) (D : va_G) (ad : Nat → Nat) (tc : Nat → ClassId) : mMet l D vwCl ad tc shC yX5_store wkX5_store rmX5_store spX5_store :=
  mMet_of (own := RX5) (ret := none) (Fd := fdX5_store) (Cl := clX5_store) (Ks := []) (Fi := [(9, 0), (90, 0), (41, 0), (20, 0), (48, 0), (34, 0)]) (Ci := [(93, 0), (97, 0), (101, 0), (105, 0), (107, 0), (108, 0), (111, 0), (114, 0)]) (bs := bsX5_store) rfl (by decide +kernel) rfl (by decide +kernel)
    (List.forall_mem_cons.mpr ⟨⟨RX5, TX5, 9, rfl, by decide, fun w h => mIn (inC_X5 w h), mIn (mAt (i := 48) (by decide +kernel)), fun h => absurd h (by decide)⟩, List.forall_mem_cons.mpr ⟨⟨RX5, TX5, 9, rfl, by decide, fun w h => mIn (inC_X5 w h), mIn (mAt (i := 64) (by decide +kernel)), fun _ => ⟨tyX5, tyX5_ok, nmX5, rfl, by decide +kernel⟩⟩, List.forall_mem_cons.mpr ⟨⟨RX5, TX5, 9, rfl, by decide, fun w h => mIn (inC_X5 w h), mIn (mAt (i := 65) (by decide +kernel)), fun h => absurd h (by decide)⟩, List.forall_mem_cons.mpr ⟨⟨RX5, TX5, 9, rfl, by decide, fun w h => mIn (inC_X5 w h), mIn (mAt (i := 66) (by decide +kernel)), fun h => absurd h (by decide)⟩, List.forall_mem_cons.mpr ⟨⟨RX5, TX5, 9, rfl, by decide, fun w h => mIn (inC_X5 w h), mIn (mAt (i := 67) (by decide +kernel)), fun h => absurd h (by decide)⟩, List.forall_mem_cons.mpr ⟨⟨RX5, TX5, 9, rfl, by decide, fun w h => mIn (inC_X5 w h), mIn (mAt (i := 68) (by decide +kernel)), fun h => absurd h (by decide)⟩, fun _ h => absurd h List.not_mem_nil⟩⟩⟩⟩⟩⟩)
    (fun _ h => absurd h List.not_mem_nil)
    (List.forall_mem_cons.mpr ⟨Or.inl ⟨rfl, RX2, TX2, 4, yX2_storeControl, cX2_storeControl, 4, (some .int), wkX2_storeControl, _, rmX2_storeControl, rfl, mGoodV goodC (mAt (i := 69) (by decide +kernel)) (mAt (i := 71) (by decide +kernel)) (mAt (i := 72) (by decide +kernel)) (mAt (i := 70) (by decide +kernel)) (mAt (i := 41) (by decide +kernel)), rfl, rfl, rfl, by decide +kernel, by decide, metX2_storeControl l D ad tc⟩, List.forall_mem_cons.mpr ⟨Or.inl ⟨rfl, RX2, TX2, 4, yX2_storeOther, cX2_storeOther, 3, none, wkX2_storeOther, _, rmX2_storeOther, rfl, mGoodV goodC (mAt (i := 73) (by decide +kernel)) (mAt (i := 74) (by decide +kernel)) (mAt (i := 75) (by decide +kernel)) (mAt (i := 70) (by decide +kernel)) (mAt (i := 46) (by decide +kernel)), rfl, rfl, rfl, by decide +kernel, by decide, metX2_storeOther l D ad tc⟩, List.forall_mem_cons.mpr ⟨Or.inl ⟨rfl, RX5, TX5, 9, yX5_storeVectorControl, cX5_storeVectorControl, 3, none, wkX5_storeVectorControl, _, rmX5_storeVectorControl, rfl, mGoodV goodC (mAt (i := 76) (by decide +kernel)) (mAt (i := 78) (by decide +kernel)) (mAt (i := 79) (by decide +kernel)) (mAt (i := 77) (by decide +kernel)) (mAt (i := 47) (by decide +kernel)), rfl, rfl, rfl, by decide +kernel, by decide, metX5_storeVectorControl l D ad tc⟩, List.forall_mem_cons.mpr ⟨Or.inl ⟨rfl, RX3, TX3, 8, yX3_storeControl, cX3_storeControl, 3, none, wkX3_storeControl, _, rmX3_storeControl, rfl, mGoodV goodC (mAt (i := 80) (by decide +kernel)) (mAt (i := 82) (by decide +kernel)) (mAt (i := 83) (by decide +kernel)) (mAt (i := 81) (by decide +kernel)) (mAt (i := 50) (by decide +kernel)), rfl, rfl, rfl, by decide +kernel, by decide, metX3_storeControl l D ad tc⟩, List.forall_mem_cons.mpr ⟨Or.inl ⟨rfl, RX7, TX7, 3, yX7_storeControl, cX7_storeControl, 4, none, wkX7_storeControl, _, rmX7_storeControl, rfl, mGoodV goodC (mAt (i := 84) (by decide +kernel)) (mAt (i := 86) (by decide +kernel)) (mAt (i := 87) (by decide +kernel)) (mAt (i := 85) (by decide +kernel)) (mAt (i := 54) (by decide +kernel)), rfl, rfl, rfl, by decide +kernel, by decide, metX7_storeControl l D ad tc⟩, List.forall_mem_cons.mpr ⟨Or.inl ⟨rfl, RX4, TX4, 15, yX4_storeState, cX4_storeState, 3, none, wkX4_storeState, _, rmX4_storeState, rfl, mGoodV goodC (mAt (i := 88) (by decide +kernel)) (mAt (i := 90) (by decide +kernel)) (mAt (i := 91) (by decide +kernel)) (mAt (i := 89) (by decide +kernel)) (mAt (i := 57) (by decide +kernel)), rfl, rfl, rfl, by decide +kernel, by decide, metX4_storeState l D ad tc⟩, List.forall_mem_cons.mpr ⟨Or.inl ⟨rfl, RX4, TX4, 15, yX4_storeParts, cX4_storeParts, 2, none, wkX4_storeParts, _, rmX4_storeParts, rfl, mGoodV goodC (mAt (i := 92) (by decide +kernel)) (mAt (i := 93) (by decide +kernel)) (mAt (i := 94) (by decide +kernel)) (mAt (i := 89) (by decide +kernel)) (mAt (i := 59) (by decide +kernel)), rfl, rfl, rfl, by decide +kernel, by decide, metX4_storeParts l D ad tc⟩, List.forall_mem_cons.mpr ⟨Or.inl ⟨rfl, RX4, TX4, 15, yX4_storeData, cX4_storeData, 2, none, wkX4_storeData, _, rmX4_storeData, rfl, mGoodV goodC (mAt (i := 95) (by decide +kernel)) (mAt (i := 96) (by decide +kernel)) (mAt (i := 97) (by decide +kernel)) (mAt (i := 89) (by decide +kernel)) (mAt (i := 61) (by decide +kernel)), rfl, rfl, rfl, by decide +kernel, by decide, metX4_storeData l D ad tc⟩, fun _ h => absurd h List.not_mem_nil⟩⟩⟩⟩⟩⟩⟩⟩) rfl rfl (by decide +kernel) (by decide) (by decide)
-- FlashBoard$Line.take
def bsX4_take : List mBl := [(0, [(0, .aload_n 0, [], 0, 0), (1, .getfield 9, [], 0, 0), (4, .sipush 192, [], 192, 0), (7, .dup2, [], 0, 0), (8, .iaload, [], 0, 0), (9, .bipush (-9), [], (-9), 0), (11, .iand, [], 0, 0), (12, .iastore, [], 0, 0), (13, .aload_n 0, [], 0, 0), (14, .getfield 32, [], 0, 1), (17, .ifCond .ne 5, [(22, 0)], 0, 0), (20, .iconst 0, [], 0, 0), (21, .ireturn, [], 0, 0)], 22),
  (22, [(22, .aload_n 0, [], 0, 0), (23, .getfield 44, [], 0, 2), (26, .istore_n 1, [], 0, 0), (27, .aload_n 0, [], 0, 0), (28, .aload_n 0, [], 0, 0), (29, .getfield 47, [], 0, 3), (32, .putfield 44, [], 0, 2), (35, .aload_n 0, [], 0, 0), (36, .dup, [], 0, 0), (37, .getfield 32, [], 0, 1), (40, .iconst 1, [], 1, 0), (41, .isub, [], 0, 0), (42, .putfield 32, [], 0, 1), (45, .aload_n 0, [], 0, 0), (46, .getfield 32, [], 0, 1), (49, .ifCond .ne 17, [(66, 0)], 0, 0), (52, .aload_n 0, [], 0, 0), (53, .getfield 9, [], 0, 0), (56, .sipush 192, [], 192, 0), (59, .dup2, [], 0, 0), (60, .iaload, [], 0, 0), (61, .sipush (-129), [], (-129), 0), (64, .iand, [], 0, 0), (65, .iastore, [], 0, 0)], 66),
  (66, [(66, .iload_n 1, [], 0, 0), (67, .ireturn, [], 0, 0)], 68)]
def fdX4_take : mFt := [(9, 7, 0, 0), (32, 7, 14, 1), (44, 7, 12, 1), (47, 7, 13, 1)]
def clX4_take : mCt := []
def spX4_take : mSp := mSpOf shC fdX4_take clX4_take bsX4_take 1 (some .int)
abbrev rmX4_take : Room := { frames := 0, cells := 0, slots := 0, locals := 0 }
abbrev wkX4_take : List Jvm.Cond := .code yX4_take cX4_take 2 (some .int) :: wC
set_option maxRecDepth 100000 in
set_option maxHeartbeats 4000000 in
theorem metX4_take (l : Launch) (D : va_G) (ad : Nat → Nat) (tc : Nat → ClassId) : mMet l D vwCl ad tc shC yX4_take wkX4_take rmX4_take spX4_take :=
  mMet_of (own := RX4) (ret := (some .int)) (Fd := fdX4_take) (Cl := clX4_take) (Ks := []) (Fi := [(9, 0), (32, 0), (44, 0), (47, 0)]) (Ci := []) (bs := bsX4_take) rfl (by decide +kernel) rfl (by decide +kernel)
    (List.forall_mem_cons.mpr ⟨⟨RX4, TX4, 15, rfl, by decide, fun w h => mIn (inC_X4 w h), mIn (mAt (i := 58) (by decide +kernel)), fun h => absurd h (by decide)⟩, List.forall_mem_cons.mpr ⟨⟨RX4, TX4, 15, rfl, by decide, fun w h => mIn (inC_X4 w h), mIn (mAt (i := 99) (by decide +kernel)), fun _ => ⟨tyX4, tyX4_ok, nmX4, rfl, by decide +kernel⟩⟩, List.forall_mem_cons.mpr ⟨⟨RX4, TX4, 15, rfl, by decide, fun w h => mIn (inC_X4 w h), mIn (mAt (i := 100) (by decide +kernel)), fun _ => ⟨tyX4, tyX4_ok, nmX4, rfl, by decide +kernel⟩⟩, List.forall_mem_cons.mpr ⟨⟨RX4, TX4, 15, rfl, by decide, fun w h => mIn (inC_X4 w h), mIn (mAt (i := 101) (by decide +kernel)), fun _ => ⟨tyX4, tyX4_ok, nmX4, rfl, by decide +kernel⟩⟩, fun _ h => absurd h List.not_mem_nil⟩⟩⟩⟩)
    (fun _ h => absurd h List.not_mem_nil)
    (fun _ h => absurd h List.not_mem_nil) rfl rfl (by decide +kernel) (by decide) (by decide)
-- FlashBoard$Memory.load
def bsX5_load : List mBl := [(0, [(0, .iload_n 1, [], 0, 0), (1, .ifCond .lt 10, [(11, 0)], 0, 0), (4, .iload_n 1, [], 0, 0), (5, .sipush 1280, [], 1280, 0), (8, .if_icmp .lt 5, [(13, 0)], 0, 0)], 11),
  (11, [(11, .iconst 0, [], 0, 0), (12, .ireturn, [], 0, 0)], 13),
  (13, [(13, .iload_n 1, [], 0, 0), (14, .sipush 198, [], 198, 0), (17, .if_icmp .ne 11, [(28, 0)], 0, 0), (20, .aload_n 0, [], 0, 0), (21, .getfield 34, [], 0, 0), (24, .invokevirtual 83, [], 0, 0), (27, .ireturn, [], 0, 0)], 28),
  (28, [(28, .iload_n 1, [], 0, 0), (29, .bipush 35, [], 35, 0), (31, .if_icmp .ne 30, [(61, 0)], 0, 0), (34, .aload_n 0, [], 0, 0), (35, .getfield 9, [], 0, 1), (38, .bipush 36, [], 36, 0), (40, .iaload, [], 0, 0), (41, .istore_n 2, [], 0, 0), (42, .aload_n 0, [], 0, 0), (43, .getfield 9, [], 0, 1), (46, .bipush 37, [], 37, 0), (48, .iaload, [], 0, 0), (49, .iload_n 2, [], 0, 0), (50, .iand, [], 0, 0), (51, .aload_n 0, [], 0, 0), (52, .getfield 87, [], 0, 2), (55, .iload_n 2, [], 0, 0), (56, .iconst (-1), [], (-1), 0), (57, .ixor, [], 0, 0), (58, .iand, [], 0, 0), (59, .ior, [], 0, 0), (60, .ireturn, [], 0, 0)], 61),
  (61, [(61, .aload_n 0, [], 0, 0), (62, .getfield 9, [], 0, 1), (65, .iload_n 1, [], 0, 0), (66, .iaload, [], 0, 0), (67, .ireturn, [], 0, 0)], 68)]
def fdX5_load : mFt := [(34, 8, 3, 0), (9, 8, 0, 0), (87, 8, 6, 1)]
def clX5_load : mCt := [(83, 0, 0, 7, spX4_take)]
def spX5_load : mSp := mSpOf shC fdX5_load clX5_load bsX5_load 2 (some .int)
abbrev rmX5_load : Room := { frames := 1, cells := 0, slots := 0, locals := 21 }
abbrev wkX5_load : List Jvm.Cond := .code yX5_load cX5_load 3 (some .int) :: wC
set_option maxRecDepth 100000 in
set_option maxHeartbeats 4000000 in
theorem metX5_load (l : Launch) (D : va_G) (ad : Nat → Nat) (tc : Nat → ClassId) : mMet l D vwCl ad tc shC yX5_load wkX5_load rmX5_load spX5_load :=
  mMet_of (own := RX5) (ret := (some .int)) (Fd := fdX5_load) (Cl := clX5_load) (Ks := []) (Fi := [(34, 0), (9, 0), (87, 0)]) (Ci := [(83, 0)]) (bs := bsX5_load) rfl (by decide +kernel) rfl (by decide +kernel)
    (List.forall_mem_cons.mpr ⟨⟨RX5, TX5, 9, rfl, by decide, fun w h => mIn (inC_X5 w h), mIn (mAt (i := 68) (by decide +kernel)), fun h => absurd h (by decide)⟩, List.forall_mem_cons.mpr ⟨⟨RX5, TX5, 9, rfl, by decide, fun w h => mIn (inC_X5 w h), mIn (mAt (i := 48) (by decide +kernel)), fun h => absurd h (by decide)⟩, List.forall_mem_cons.mpr ⟨⟨RX5, TX5, 9, rfl, by decide, fun w h => mIn (inC_X5 w h), mIn (mAt (i := 103) (by decide +kernel)), fun _ => ⟨tyX5, tyX5_ok, nmX5, rfl, by decide +kernel⟩⟩, fun _ h => absurd h List.not_mem_nil⟩⟩⟩)
    (fun _ h => absurd h List.not_mem_nil)
    (List.forall_mem_cons.mpr ⟨Or.inl ⟨rfl, RX4, TX4, 15, yX4_take, cX4_take, 2, (some .int), wkX4_take, _, rmX4_take, rfl, mGoodV goodC (mAt (i := 104) (by decide +kernel)) (mAt (i := 105) (by decide +kernel)) (mAt (i := 106) (by decide +kernel)) (mAt (i := 89) (by decide +kernel)) (mAt (i := 98) (by decide +kernel)), rfl, rfl, rfl, by decide +kernel, by decide, metX4_take l D ad tc⟩, fun _ h => absurd h List.not_mem_nil⟩) rfl rfl (by decide +kernel) (by decide) (by decide)
-- FlashBoard$Core.atDistance
def bsX1_atDistance : List mBl := [(0, [(0, .iload_n 1, [], 0, 0), (1, .bipush 8, [], 8, 0), (3, .ishr, [], 0, 0), (4, .bipush 32, [], 32, 0), (6, .iand, [], 0, 0), (7, .iload_n 1, [], 0, 0), (8, .bipush 7, [], 7, 0), (10, .ishr, [], 0, 0), (11, .bipush 24, [], 24, 0), (13, .iand, [], 0, 0), (14, .ior, [], 0, 0), (15, .iload_n 1, [], 0, 0), (16, .bipush 7, [], 7, 0), (18, .iand, [], 0, 0), (19, .ior, [], 0, 0), (20, .istore_n 2, [], 0, 0), (21, .aload_n 0, [], 0, 0), (22, .iload_n 1, [], 0, 0), (23, .bipush 8, [], 8, 0), (25, .iand, [], 0, 0), (26, .ifCond .eq 8, [(34, 0)], 0, 0), (29, .bipush 28, [], 28, 0), (31, .goto 5, [(36, 0)], 0, 0)], 34),
  (34, [(34, .bipush 30, [], 30, 0)], 36),
  (36, [(36, .invokevirtual 149, [], 0, 0), (39, .iload_n 2, [], 0, 0), (40, .iadd, [], 0, 0), (41, .ldc 162, [], 65535, 0), (43, .iand, [], 0, 0), (44, .istore_n 3, [], 0, 0), (45, .iload_n 1, [], 0, 0), (46, .sipush 512, [], 512, 0), (49, .iand, [], 0, 0), (50, .ifCond .eq 23, [(73, 0)], 0, 0), (53, .aload_n 0, [], 0, 0), (54, .getfield 9, [], 0, 0), (57, .iload_n 3, [], 0, 0), (58, .aload_n 0, [], 0, 0), (59, .getfield 26, [], 0, 1), (62, .iload_n 1, [], 0, 0), (63, .invokestatic 113, [], 0, 1), (66, .iaload, [], 0, 0), (67, .invokevirtual 179, [], 0, 2), (70, .goto 20, [(90, 0)], 0, 0)], 73),
  (73, [(73, .aload_n 0, [], 0, 0), (74, .getfield 26, [], 0, 1), (77, .iload_n 1, [], 0, 0), (78, .invokestatic 113, [], 0, 1), (81, .aload_n 0, [], 0, 0), (82, .getfield 9, [], 0, 0), (85, .iload_n 3, [], 0, 0), (86, .invokevirtual 182, [], 0, 3), (89, .iastore, [], 0, 0)], 90),
  (90, [(90, .iconst 2, [], 2, 0), (91, .ireturn, [], 0, 0)], 92)]
def fdX1_atDistance : mFt := [(9, 4, 0, 0), (26, 4, 2, 0)]
def clX1_atDistance : mCt := [(149, 0, 1, 4, spX1_pair), (113, 1, 1, 0, spX1_first), (179, 0, 2, 8, spX5_store), (182, 0, 1, 8, spX5_load)]
def spX1_atDistance : mSp := mSpOf shC fdX1_atDistance clX1_atDistance bsX1_atDistance 2 (some .int)
abbrev rmX1_atDistance : Room := { frames := 2, cells := 0, slots := 0, locals := 45 }
abbrev wkX1_atDistance : List Jvm.Cond := .code yX1_atDistance cX1_atDistance 4 (some .int) :: wC
set_option maxRecDepth 100000 in
set_option maxHeartbeats 4000000 in
theorem metX1_atDistance (l : Launch) (D : va_G) (ad : Nat → Nat) (tc : Nat → ClassId) : mMet l D vwCl ad tc shC yX1_atDistance wkX1_atDistance rmX1_atDistance spX1_atDistance :=
  mMet_of (own := RX1) (ret := (some .int)) (Fd := fdX1_atDistance) (Cl := clX1_atDistance) (Ks := [(162, 65535)]) (Fi := [(9, 0), (26, 0)]) (Ci := [(149, 0), (113, 1), (179, 0), (182, 0)]) (bs := bsX1_atDistance) rfl (by decide +kernel) rfl (by decide +kernel)
    (List.forall_mem_cons.mpr ⟨⟨RX1, TX1, 8, rfl, by decide, fun w h => mIn (inC_X1 w h), mIn (mAt (i := 108) (by decide +kernel)), fun h => absurd h (by decide)⟩, List.forall_mem_cons.mpr ⟨⟨RX1, TX1, 8, rfl, by decide, fun w h => mIn (inC_X1 w h), mIn (mAt (i := 39) (by decide +kernel)), fun h => absurd h (by decide)⟩, fun _ h => absurd h List.not_mem_nil⟩⟩)
    (List.forall_mem_cons.mpr ⟨mIn (mAt (i := 109) (by decide +kernel)), fun _ h => absurd h List.not_mem_nil⟩)
    (List.forall_mem_cons.mpr ⟨Or.inl ⟨rfl, RX1, TX1, 8, yX1_pair, cX1_pair, 2, (some .int), wkX1_pair, _, rmX1_pair, rfl, mGoodV goodC (mAt (i := 110) (by decide +kernel)) (mAt (i := 112) (by decide +kernel)) (mAt (i := 113) (by decide +kernel)) (mAt (i := 111) (by decide +kernel)) (mAt (i := 38) (by decide +kernel)), rfl, rfl, rfl, by decide +kernel, by decide, metX1_pair l D ad tc⟩, List.forall_mem_cons.mpr ⟨Or.inr ⟨rfl, yX1_first, cX1_first, 1, (some .int), wkX1_first, _, rmX1_first, mGoodS goodC (mAt (i := 114) (by decide +kernel)) (mAt (i := 115) (by decide +kernel)) (mAt (i := 111) (by decide +kernel)) (mAt (i := 40) (by decide +kernel)), rfl, rfl, rfl, by decide +kernel, by decide, metX1_first l D ad tc⟩, List.forall_mem_cons.mpr ⟨Or.inl ⟨rfl, RX5, TX5, 9, yX5_store, cX5_store, 3, none, wkX5_store, _, rmX5_store, rfl, mGoodV goodC (mAt (i := 116) (by decide +kernel)) (mAt (i := 117) (by decide +kernel)) (mAt (i := 118) (by decide +kernel)) (mAt (i := 77) (by decide +kernel)) (mAt (i := 63) (by decide +kernel)), rfl, rfl, rfl, by decide +kernel, by decide, metX5_store l D ad tc⟩, List.forall_mem_cons.mpr ⟨Or.inl ⟨rfl, RX5, TX5, 9, yX5_load, cX5_load, 3, (some .int), wkX5_load, _, rmX5_load, rfl, mGoodV goodC (mAt (i := 119) (by decide +kernel)) (mAt (i := 120) (by decide +kernel)) (mAt (i := 121) (by decide +kernel)) (mAt (i := 77) (by decide +kernel)) (mAt (i := 102) (by decide +kernel)), rfl, rfl, rfl, by decide +kernel, by decide, metX5_load l D ad tc⟩, fun _ h => absurd h List.not_mem_nil⟩⟩⟩⟩) rfl rfl (by decide +kernel) (by decide) (by decide)
-- FlashBoard$Core.branch
def bsX1_branch : List mBl := [(0, [(0, .iload_n 1, [], 0, 0), (1, .sipush 1024, [], 1024, 0), (4, .iand, [], 0, 0), (5, .ifCond .ne 7, [(12, 0)], 0, 0), (8, .iconst 1, [], 1, 0), (9, .goto 4, [(13, 0)], 0, 0)], 12),
  (12, [(12, .iconst 0, [], 0, 0)], 13),
  (13, [(13, .istore_n 3, [], 0, 0), (14, .iload_n 2, [], 0, 0), (15, .iload_n 3, [], 0, 0), (16, .if_icmp .eq 5, [(21, 0)], 0, 0), (19, .iconst 1, [], 1, 0), (20, .ireturn, [], 0, 0)], 21),
  (21, [(21, .iload_n 1, [], 0, 0), (22, .iconst 3, [], 3, 0), (23, .ishr, [], 0, 0), (24, .bipush 127, [], 127, 0), (26, .iand, [], 0, 0), (27, .istore 4, [], 0, 0), (29, .aload_n 0, [], 0, 0), (30, .aload_n 0, [], 0, 0), (31, .getfield 36, [], 0, 0), (34, .iload 4, [], 0, 0), (36, .bipush 64, [], 64, 0), (38, .if_icmp .ge 8, [(46, 0)], 0, 0), (41, .iload 4, [], 0, 0), (43, .goto 9, [(52, 0)], 0, 0)], 46),
  (46, [(46, .iload 4, [], 0, 0), (48, .sipush 128, [], 128, 0), (51, .isub, [], 0, 0)], 52),
  (52, [(52, .iadd, [], 0, 0), (53, .sipush 2047, [], 2047, 0), (56, .iand, [], 0, 0), (57, .putfield 36, [], 0, 0), (60, .iconst 2, [], 2, 0), (61, .ireturn, [], 0, 0)], 62)]
def fdX1_branch : mFt := [(36, 4, 4, 1)]
def clX1_branch : mCt := []
def spX1_branch : mSp := mSpOf shC fdX1_branch clX1_branch bsX1_branch 3 (some .int)
abbrev rmX1_branch : Room := { frames := 0, cells := 0, slots := 0, locals := 0 }
abbrev wkX1_branch : List Jvm.Cond := .code yX1_branch cX1_branch 5 (some .int) :: wC
set_option maxRecDepth 100000 in
set_option maxHeartbeats 4000000 in
theorem metX1_branch (l : Launch) (D : va_G) (ad : Nat → Nat) (tc : Nat → ClassId) : mMet l D vwCl ad tc shC yX1_branch wkX1_branch rmX1_branch spX1_branch :=
  mMet_of (own := RX1) (ret := (some .int)) (Fd := fdX1_branch) (Cl := clX1_branch) (Ks := []) (Fi := [(36, 0)]) (Ci := []) (bs := bsX1_branch) rfl (by decide +kernel) rfl (by decide +kernel)
    (List.forall_mem_cons.mpr ⟨⟨RX1, TX1, 8, rfl, by decide, fun w h => mIn (inC_X1 w h), mIn (mAt (i := 123) (by decide +kernel)), fun _ => ⟨tyX1, tyX1_ok, nmX1, rfl, by decide +kernel⟩⟩, fun _ h => absurd h List.not_mem_nil⟩)
    (fun _ h => absurd h List.not_mem_nil)
    (fun _ h => absurd h List.not_mem_nil) rfl rfl (by decide +kernel) (by decide) (by decide)
-- FlashBoard$Flash.seen
def bsX3_seen : List mBl := [(0, [(0, .iload_n 1, [], 0, 0), (1, .sipush 2047, [], 2047, 0), (4, .iand, [], 0, 0), (5, .istore_n 2, [], 0, 0), (6, .iload_n 2, [], 0, 0), (7, .sipush 1536, [], 1536, 0), (10, .if_icmp .ge 21, [(31, 0)], 0, 0), (13, .aload_n 0, [], 0, 0), (14, .getfield 9, [], 0, 0), (17, .bipush 87, [], 87, 0), (19, .iaload, [], 0, 0), (20, .bipush 64, [], 64, 0), (22, .iand, [], 0, 0), (23, .ifCond .eq 8, [(31, 0)], 0, 0), (26, .ldc 28, [], 65535, 0), (28, .goto 9, [(37, 0)], 0, 0)], 31),
  (31, [(31, .aload_n 0, [], 0, 0), (32, .getfield 15, [], 0, 1), (35, .iload_n 2, [], 0, 0), (36, .iaload, [], 0, 0)], 37),
  (37, [(37, .ireturn, [], 0, 0)], 38)]
def fdX3_seen : mFt := [(9, 6, 1, 0), (15, 6, 0, 0)]
def clX3_seen : mCt := []
def spX3_seen : mSp := mSpOf shC fdX3_seen clX3_seen bsX3_seen 2 (some .int)
abbrev rmX3_seen : Room := { frames := 0, cells := 0, slots := 0, locals := 0 }
abbrev wkX3_seen : List Jvm.Cond := .code yX3_seen cX3_seen 3 (some .int) :: wC
set_option maxRecDepth 100000 in
set_option maxHeartbeats 4000000 in
theorem metX3_seen (l : Launch) (D : va_G) (ad : Nat → Nat) (tc : Nat → ClassId) : mMet l D vwCl ad tc shC yX3_seen wkX3_seen rmX3_seen spX3_seen :=
  mMet_of (own := RX3) (ret := (some .int)) (Fd := fdX3_seen) (Cl := clX3_seen) (Ks := [(28, 65535)]) (Fi := [(9, 0), (15, 0)]) (Ci := []) (bs := bsX3_seen) rfl (by decide +kernel) rfl (by decide +kernel)
    (List.forall_mem_cons.mpr ⟨⟨RX3, TX3, 8, rfl, by decide, fun w h => mIn (inC_X3 w h), mIn (mAt (i := 51) (by decide +kernel)), fun h => absurd h (by decide)⟩, List.forall_mem_cons.mpr ⟨⟨RX3, TX3, 8, rfl, by decide, fun w h => mIn (inC_X3 w h), mIn (mAt (i := 125) (by decide +kernel)), fun h => absurd h (by decide)⟩, fun _ h => absurd h List.not_mem_nil⟩⟩)
    (List.forall_mem_cons.mpr ⟨mIn (mAt (i := 126) (by decide +kernel)), fun _ h => absurd h List.not_mem_nil⟩)
    (fun _ h => absurd h List.not_mem_nil) rfl rfl (by decide +kernel) (by decide) (by decide)
-- FlashBoard$Core.nextWord
def bsX1_nextWord : List mBl := [(0, [(0, .aload_n 0, [], 0, 0), (1, .getfield 21, [], 0, 0), (4, .aload_n 0, [], 0, 0), (5, .getfield 36, [], 0, 1), (8, .invokevirtual 126, [], 0, 0), (11, .istore_n 1, [], 0, 0), (12, .aload_n 0, [], 0, 0), (13, .aload_n 0, [], 0, 0), (14, .getfield 36, [], 0, 1), (17, .iconst 1, [], 1, 0), (18, .iadd, [], 0, 0), (19, .sipush 2047, [], 2047, 0), (22, .iand, [], 0, 0), (23, .putfield 36, [], 0, 1), (26, .iload_n 1, [], 0, 0), (27, .ireturn, [], 0, 0)], 28)]
def fdX1_nextWord : mFt := [(21, 4, 1, 0), (36, 4, 4, 1)]
def clX1_nextWord : mCt := [(126, 0, 1, 6, spX3_seen)]
def spX1_nextWord : mSp := mSpOf shC fdX1_nextWord clX1_nextWord bsX1_nextWord 1 (some .int)
abbrev rmX1_nextWord : Room := { frames := 1, cells := 0, slots := 0, locals := 22 }
abbrev wkX1_nextWord : List Jvm.Cond := .code yX1_nextWord cX1_nextWord 2 (some .int) :: wC
set_option maxRecDepth 100000 in
set_option maxHeartbeats 4000000 in
theorem metX1_nextWord (l : Launch) (D : va_G) (ad : Nat → Nat) (tc : Nat → ClassId) : mMet l D vwCl ad tc shC yX1_nextWord wkX1_nextWord rmX1_nextWord spX1_nextWord :=
  mMet_of (own := RX1) (ret := (some .int)) (Fd := fdX1_nextWord) (Cl := clX1_nextWord) (Ks := []) (Fi := [(21, 0), (36, 0)]) (Ci := [(126, 0)]) (bs := bsX1_nextWord) rfl (by decide +kernel) rfl (by decide +kernel)
    (List.forall_mem_cons.mpr ⟨⟨RX1, TX1, 8, rfl, by decide, fun w h => mIn (inC_X1 w h), mIn (mAt (i := 128) (by decide +kernel)), fun h => absurd h (by decide)⟩, List.forall_mem_cons.mpr ⟨⟨RX1, TX1, 8, rfl, by decide, fun w h => mIn (inC_X1 w h), mIn (mAt (i := 123) (by decide +kernel)), fun _ => ⟨tyX1, tyX1_ok, nmX1, rfl, by decide +kernel⟩⟩, fun _ h => absurd h List.not_mem_nil⟩⟩)
    (fun _ h => absurd h List.not_mem_nil)
    (List.forall_mem_cons.mpr ⟨Or.inl ⟨rfl, RX3, TX3, 8, yX3_seen, cX3_seen, 3, (some .int), wkX3_seen, _, rmX3_seen, rfl, mGoodV goodC (mAt (i := 129) (by decide +kernel)) (mAt (i := 130) (by decide +kernel)) (mAt (i := 131) (by decide +kernel)) (mAt (i := 81) (by decide +kernel)) (mAt (i := 124) (by decide +kernel)), rfl, rfl, rfl, by decide +kernel, by decide, metX3_seen l D ad tc⟩, fun _ h => absurd h List.not_mem_nil⟩) rfl rfl (by decide +kernel) (by decide) (by decide)
-- FlashBoard$Core.skipIf
def bsX1_skipIf : List mBl := [(0, [(0, .iload_n 1, [], 0, 0), (1, .ifCond .ne 5, [(6, 0)], 0, 0), (4, .iconst 1, [], 1, 0), (5, .ireturn, [], 0, 0)], 6),
  (6, [(6, .aload_n 0, [], 0, 0), (7, .invokevirtual 50, [], 0, 0), (10, .istore_n 2, [], 0, 0), (11, .iload_n 2, [], 0, 0), (12, .ldc 138, [], 64527, 0), (14, .iand, [], 0, 0), (15, .ldc 139, [], 36864, 1), (17, .if_icmp .eq 12, [(29, 0)], 0, 0), (20, .iload_n 2, [], 0, 0), (21, .ldc 140, [], 65036, 2), (23, .iand, [], 0, 0), (24, .ldc 141, [], 37900, 3), (26, .if_icmp .ne 7, [(33, 0)], 0, 0)], 29),
  (29, [(29, .iconst 1, [], 1, 0), (30, .goto 4, [(34, 0)], 0, 0)], 33),
  (33, [(33, .iconst 0, [], 0, 0)], 34),
  (34, [(34, .istore_n 3, [], 0, 0), (35, .iload_n 3, [], 0, 0), (36, .ifCond .ne 5, [(41, 0)], 0, 0), (39, .iconst 2, [], 2, 0), (40, .ireturn, [], 0, 0)], 41),
  (41, [(41, .aload_n 0, [], 0, 0), (42, .invokevirtual 50, [], 0, 0), (45, .pop, [], 0, 0), (46, .iconst 3, [], 3, 0), (47, .ireturn, [], 0, 0)], 48)]
def fdX1_skipIf : mFt := []
def clX1_skipIf : mCt := [(50, 0, 0, 4, spX1_nextWord)]
def spX1_skipIf : mSp := mSpOf shC fdX1_skipIf clX1_skipIf bsX1_skipIf 2 (some .int)
abbrev rmX1_skipIf : Room := { frames := 2, cells := 0, slots := 0, locals := 43 }
abbrev wkX1_skipIf : List Jvm.Cond := .code yX1_skipIf cX1_skipIf 4 (some .int) :: wC
set_option maxRecDepth 100000 in
set_option maxHeartbeats 4000000 in
theorem metX1_skipIf (l : Launch) (D : va_G) (ad : Nat → Nat) (tc : Nat → ClassId) : mMet l D vwCl ad tc shC yX1_skipIf wkX1_skipIf rmX1_skipIf spX1_skipIf :=
  mMet_of (own := RX1) (ret := (some .int)) (Fd := fdX1_skipIf) (Cl := clX1_skipIf) (Ks := [(138, 64527), (139, 36864), (140, 65036), (141, 37900)]) (Fi := []) (Ci := [(50, 0)]) (bs := bsX1_skipIf) rfl (by decide +kernel) rfl (by decide +kernel)
    (fun _ h => absurd h List.not_mem_nil)
    (List.forall_mem_cons.mpr ⟨mIn (mAt (i := 133) (by decide +kernel)), List.forall_mem_cons.mpr ⟨mIn (mAt (i := 134) (by decide +kernel)), List.forall_mem_cons.mpr ⟨mIn (mAt (i := 135) (by decide +kernel)), List.forall_mem_cons.mpr ⟨mIn (mAt (i := 136) (by decide +kernel)), fun _ h => absurd h List.not_mem_nil⟩⟩⟩⟩)
    (List.forall_mem_cons.mpr ⟨Or.inl ⟨rfl, RX1, TX1, 8, yX1_nextWord, cX1_nextWord, 2, (some .int), wkX1_nextWord, _, rmX1_nextWord, rfl, mGoodV goodC (mAt (i := 137) (by decide +kernel)) (mAt (i := 138) (by decide +kernel)) (mAt (i := 139) (by decide +kernel)) (mAt (i := 111) (by decide +kernel)) (mAt (i := 127) (by decide +kernel)), rfl, rfl, rfl, by decide +kernel, by decide, metX1_nextWord l D ad tc⟩, fun _ h => absurd h List.not_mem_nil⟩) rfl rfl (by decide +kernel) (by decide) (by decide)
-- FlashBoard$Core.byBit
def bsX1_byBit : List mBl := [(0, [(0, .iload_n 1, [], 0, 0), (1, .bipush 7, [], 7, 0), (3, .iand, [], 0, 0), (4, .istore_n 2, [], 0, 0), (5, .iload_n 1, [], 0, 0), (6, .sipush 2048, [], 2048, 0), (9, .iand, [], 0, 0), (10, .ifCond .ne 28, [(38, 0)], 0, 0), (13, .aload_n 0, [], 0, 0), (14, .iload_n 1, [], 0, 0), (15, .aload_n 0, [], 0, 0), (16, .getfield 26, [], 0, 0), (19, .bipush 95, [], 95, 0), (21, .iaload, [], 0, 0), (22, .iload_n 2, [], 0, 0), (23, .ishr, [], 0, 0), (24, .iconst 1, [], 1, 0), (25, .iand, [], 0, 0), (26, .ifCond .eq 7, [(33, 0)], 0, 0), (29, .iconst 1, [], 1, 0), (30, .goto 4, [(34, 0)], 0, 0)], 33),
  (33, [(33, .iconst 0, [], 0, 0)], 34),
  (34, [(34, .invokevirtual 231, [], 0, 0), (37, .ireturn, [], 0, 0)], 38),
  (38, [(38, .iload_n 1, [], 0, 0), (39, .bipush 8, [], 8, 0), (41, .iand, [], 0, 0), (42, .ifCond .eq 5, [(47, 0)], 0, 0), (45, .iconst 1, [], 1, 0), (46, .ireturn, [], 0, 0)], 47),
  (47, [(47, .iload_n 1, [], 0, 0), (48, .invokestatic 113, [], 0, 1), (51, .istore_n 3, [], 0, 0), (52, .aload_n 0, [], 0, 0), (53, .getfield 26, [], 0, 0), (56, .iload_n 3, [], 0, 0), (57, .iaload, [], 0, 0), (58, .iload_n 2, [], 0, 0), (59, .ishr, [], 0, 0), (60, .iconst 1, [], 1, 0), (61, .iand, [], 0, 0), (62, .ifCond .eq 7, [(69, 0)], 0, 0), (65, .iconst 1, [], 1, 0), (66, .goto 4, [(70, 0)], 0, 0)], 69),
  (69, [(69, .iconst 0, [], 0, 0)], 70),
  (70, [(70, .istore 4, [], 0, 0), (72, .iload_n 1, [], 0, 0), (73, .bipush 9, [], 9, 0), (75, .ishr, [], 0, 0), (76, .iconst 3, [], 3, 0), (77, .iand, [], 0, 0), (78, .tableswitch 117 0 2 #[26, 71, 102], [(104, 0), (149, 1), (180, 2), (195, 0)], 0, 26)], 104),
  (104, [(104, .aload_n 0, [], 0, 0), (105, .getfield 26, [], 0, 0), (108, .bipush 95, [], 95, 0), (110, .iaload, [], 0, 0), (111, .bipush 64, [], 64, 0), (113, .iand, [], 0, 0), (114, .ifCond .eq 7, [(121, 0)], 0, 0), (117, .iconst 1, [], 1, 0), (118, .goto 4, [(122, 0)], 0, 0)], 121),
  (121, [(121, .iconst 0, [], 0, 0)], 122),
  (122, [(122, .istore 5, [], 0, 0), (124, .aload_n 0, [], 0, 0), (125, .getfield 26, [], 0, 0), (128, .iload_n 3, [], 0, 0), (129, .aload_n 0, [], 0, 0), (130, .getfield 26, [], 0, 0), (133, .iload_n 3, [], 0, 0), (134, .iaload, [], 0, 0), (135, .iconst 1, [], 1, 0), (136, .iload_n 2, [], 0, 0), (137, .ishl, [], 0, 0), (138, .iconst (-1), [], (-1), 0), (139, .ixor, [], 0, 0), (140, .iand, [], 0, 0), (141, .iload 5, [], 0, 0), (143, .iload_n 2, [], 0, 0), (144, .ishl, [], 0, 0), (145, .ior, [], 0, 0), (146, .iastore, [], 0, 0), (147, .iconst 1, [], 1, 0), (148, .ireturn, [], 0, 0)], 149),
  (149, [(149, .aload_n 0, [], 0, 0), (150, .getfield 26, [], 0, 0), (153, .bipush 95, [], 95, 0), (155, .aload_n 0, [], 0, 0), (156, .getfield 26, [], 0, 0), (159, .bipush 95, [], 95, 0), (161, .iaload, [], 0, 0), (162, .bipush (-65), [], (-65), 0), (164, .iand, [], 0, 0), (165, .iload 4, [], 0, 0), (167, .ifCond .eq 8, [(175, 0)], 0, 0), (170, .bipush 64, [], 64, 0), (172, .goto 4, [(176, 0)], 0, 0)], 175),
  (175, [(175, .iconst 0, [], 0, 0)], 176),
  (176, [(176, .ior, [], 0, 0), (177, .iastore, [], 0, 0), (178, .iconst 1, [], 1, 0), (179, .ireturn, [], 0, 0)], 180),
  (180, [(180, .aload_n 0, [], 0, 0), (181, .iload 4, [], 0, 0), (183, .ifCond .ne 7, [(190, 0)], 0, 0), (186, .iconst 1, [], 1, 0), (187, .goto 4, [(191, 0)], 0, 0)], 190),
  (190, [(190, .iconst 0, [], 0, 0)], 191),
  (191, [(191, .invokevirtual 166, [], 0, 2), (194, .ireturn, [], 0, 0)], 195),
  (195, [(195, .aload_n 0, [], 0, 0), (196, .iload 4, [], 0, 0), (198, .invokevirtual 166, [], 0, 2), (201, .ireturn, [], 0, 0)], 202)]
def fdX1_byBit : mFt := [(26, 4, 2, 0)]
def clX1_byBit : mCt := [(231, 0, 2, 4, spX1_branch), (113, 1, 1, 0, spX1_first), (166, 0, 1, 4, spX1_skipIf)]
def spX1_byBit : mSp := mSpOf shC fdX1_byBit clX1_byBit bsX1_byBit 2 (some .int)
abbrev rmX1_byBit : Room := { frames := 3, cells := 0, slots := 0, locals := 66 }
abbrev wkX1_byBit : List Jvm.Cond := .code yX1_byBit cX1_byBit 6 (some .int) :: wC
set_option maxRecDepth 100000 in
set_option maxHeartbeats 4000000 in
theorem metX1_byBit (l : Launch) (D : va_G) (ad : Nat → Nat) (tc : Nat → ClassId) : mMet l D vwCl ad tc shC yX1_byBit wkX1_byBit rmX1_byBit spX1_byBit :=
  mMet_of (own := RX1) (ret := (some .int)) (Fd := fdX1_byBit) (Cl := clX1_byBit) (Ks := []) (Fi := [(26, 0)]) (Ci := [(231, 0), (113, 1), (166, 0)]) (bs := bsX1_byBit) rfl (by decide +kernel) rfl (by decide +kernel)
    (List.forall_mem_cons.mpr ⟨⟨RX1, TX1, 8, rfl, by decide, fun w h => mIn (inC_X1 w h), mIn (mAt (i := 39) (by decide +kernel)), fun h => absurd h (by decide)⟩, fun _ h => absurd h List.not_mem_nil⟩)
    (fun _ h => absurd h List.not_mem_nil)
    (List.forall_mem_cons.mpr ⟨Or.inl ⟨rfl, RX1, TX1, 8, yX1_branch, cX1_branch, 5, (some .int), wkX1_branch, _, rmX1_branch, rfl, mGoodV goodC (mAt (i := 141) (by decide +kernel)) (mAt (i := 142) (by decide +kernel)) (mAt (i := 143) (by decide +kernel)) (mAt (i := 111) (by decide +kernel)) (mAt (i := 122) (by decide +kernel)), rfl, rfl, rfl, by decide +kernel, by decide, metX1_branch l D ad tc⟩, List.forall_mem_cons.mpr ⟨Or.inr ⟨rfl, yX1_first, cX1_first, 1, (some .int), wkX1_first, _, rmX1_first, mGoodS goodC (mAt (i := 114) (by decide +kernel)) (mAt (i := 115) (by decide +kernel)) (mAt (i := 111) (by decide +kernel)) (mAt (i := 40) (by decide +kernel)), rfl, rfl, rfl, by decide +kernel, by decide, metX1_first l D ad tc⟩, List.forall_mem_cons.mpr ⟨Or.inl ⟨rfl, RX1, TX1, 8, yX1_skipIf, cX1_skipIf, 4, (some .int), wkX1_skipIf, _, rmX1_skipIf, rfl, mGoodV goodC (mAt (i := 144) (by decide +kernel)) (mAt (i := 145) (by decide +kernel)) (mAt (i := 146) (by decide +kernel)) (mAt (i := 111) (by decide +kernel)) (mAt (i := 132) (by decide +kernel)), rfl, rfl, rfl, by decide +kernel, by decide, metX1_skipIf l D ad tc⟩, fun _ h => absurd h List.not_mem_nil⟩⟩⟩) rfl rfl (by decide +kernel) (by decide) (by decide)
-- FlashBoard$Core.statusBit
def bsX1_statusBit : List mBl := [(0, [(0, .iconst 1, [], 1, 0), (1, .iload_n 1, [], 0, 0), (2, .iconst 4, [], 4, 0), (3, .ishr, [], 0, 0), (4, .bipush 7, [], 7, 0), (6, .iand, [], 0, 0), (7, .ishl, [], 0, 0), (8, .istore_n 2, [], 0, 0), (9, .iload_n 1, [], 0, 0), (10, .sipush 128, [], 128, 0), (13, .iand, [], 0, 0), (14, .ifCond .ne 17, [(31, 0)], 0, 0), (17, .aload_n 0, [], 0, 0), (18, .getfield 26, [], 0, 0), (21, .bipush 95, [], 95, 0), (23, .dup2, [], 0, 0), (24, .iaload, [], 0, 0), (25, .iload_n 2, [], 0, 0), (26, .ior, [], 0, 0), (27, .iastore, [], 0, 0), (28, .goto 16, [(44, 0)], 0, 0)], 31),
  (31, [(31, .aload_n 0, [], 0, 0), (32, .getfield 26, [], 0, 0), (35, .bipush 95, [], 95, 0), (37, .dup2, [], 0, 0), (38, .iaload, [], 0, 0), (39, .iload_n 2, [], 0, 0), (40, .iconst (-1), [], (-1), 0), (41, .ixor, [], 0, 0), (42, .iand, [], 0, 0), (43, .iastore, [], 0, 0)], 44),
  (44, [(44, .iconst 1, [], 1, 0), (45, .ireturn, [], 0, 0)], 46)]
def fdX1_statusBit : mFt := [(26, 4, 2, 0)]
def clX1_statusBit : mCt := []
def spX1_statusBit : mSp := mSpOf shC fdX1_statusBit clX1_statusBit bsX1_statusBit 2 (some .int)
abbrev rmX1_statusBit : Room := { frames := 0, cells := 0, slots := 0, locals := 0 }
abbrev wkX1_statusBit : List Jvm.Cond := .code yX1_statusBit cX1_statusBit 3 (some .int) :: wC
set_option maxRecDepth 100000 in
set_option maxHeartbeats 4000000 in
theorem metX1_statusBit (l : Launch) (D : va_G) (ad : Nat → Nat) (tc : Nat → ClassId) : mMet l D vwCl ad tc shC yX1_statusBit wkX1_statusBit rmX1_statusBit spX1_statusBit :=
  mMet_of (own := RX1) (ret := (some .int)) (Fd := fdX1_statusBit) (Cl := clX1_statusBit) (Ks := []) (Fi := [(26, 0)]) (Ci := []) (bs := bsX1_statusBit) rfl (by decide +kernel) rfl (by decide +kernel)
    (List.forall_mem_cons.mpr ⟨⟨RX1, TX1, 8, rfl, by decide, fun w h => mIn (inC_X1 w h), mIn (mAt (i := 39) (by decide +kernel)), fun h => absurd h (by decide)⟩, fun _ h => absurd h List.not_mem_nil⟩)
    (fun _ h => absurd h List.not_mem_nil)
    (fun _ h => absurd h List.not_mem_nil) rfl rfl (by decide +kernel) (by decide) (by decide)
-- FlashBoard$Memory.stackPointer
def bsX5_stackPointer : List mBl := [(0, [(0, .aload_n 0, [], 0, 0), (1, .getfield 9, [], 0, 0), (4, .bipush 94, [], 94, 0), (6, .iaload, [], 0, 0), (7, .bipush 8, [], 8, 0), (9, .ishl, [], 0, 0), (10, .aload_n 0, [], 0, 0), (11, .getfield 9, [], 0, 0), (14, .bipush 93, [], 93, 0), (16, .iaload, [], 0, 0), (17, .ior, [], 0, 0), (18, .ireturn, [], 0, 0)], 19)]
def fdX5_stackPointer : mFt := [(9, 8, 0, 0)]
def clX5_stackPointer : mCt := []
def spX5_stackPointer : mSp := mSpOf shC fdX5_stackPointer clX5_stackPointer bsX5_stackPointer 1 (some .int)
abbrev rmX5_stackPointer : Room := { frames := 0, cells := 0, slots := 0, locals := 0 }
abbrev wkX5_stackPointer : List Jvm.Cond := .code yX5_stackPointer cX5_stackPointer 1 (some .int) :: wC
set_option maxRecDepth 100000 in
set_option maxHeartbeats 4000000 in
theorem metX5_stackPointer (l : Launch) (D : va_G) (ad : Nat → Nat) (tc : Nat → ClassId) : mMet l D vwCl ad tc shC yX5_stackPointer wkX5_stackPointer rmX5_stackPointer spX5_stackPointer :=
  mMet_of (own := RX5) (ret := (some .int)) (Fd := fdX5_stackPointer) (Cl := clX5_stackPointer) (Ks := []) (Fi := [(9, 0)]) (Ci := []) (bs := bsX5_stackPointer) rfl (by decide +kernel) rfl (by decide +kernel)
    (List.forall_mem_cons.mpr ⟨⟨RX5, TX5, 9, rfl, by decide, fun w h => mIn (inC_X5 w h), mIn (mAt (i := 48) (by decide +kernel)), fun h => absurd h (by decide)⟩, fun _ h => absurd h List.not_mem_nil⟩)
    (fun _ h => absurd h List.not_mem_nil)
    (fun _ h => absurd h List.not_mem_nil) rfl rfl (by decide +kernel) (by decide) (by decide)
-- FlashBoard$Memory.moveStack
def bsX5_moveStack : List mBl := [(0, [(0, .aload_n 0, [], 0, 0), (1, .getfield 9, [], 0, 0), (4, .bipush 94, [], 94, 0), (6, .iload_n 1, [], 0, 0), (7, .bipush 8, [], 8, 0), (9, .ishr, [], 0, 0), (10, .sipush 255, [], 255, 0), (13, .iand, [], 0, 0), (14, .iastore, [], 0, 0), (15, .aload_n 0, [], 0, 0), (16, .getfield 9, [], 0, 0), (19, .bipush 93, [], 93, 0), (21, .iload_n 1, [], 0, 0), (22, .sipush 255, [], 255, 0), (25, .iand, [], 0, 0), (26, .iastore, [], 0, 0), (27, .return_, [], 0, 0)], 28)]
def fdX5_moveStack : mFt := [(9, 8, 0, 0)]
def clX5_moveStack : mCt := []
def spX5_moveStack : mSp := mSpOf shC fdX5_moveStack clX5_moveStack bsX5_moveStack 2 none
abbrev rmX5_moveStack : Room := { frames := 0, cells := 0, slots := 0, locals := 0 }
abbrev wkX5_moveStack : List Jvm.Cond := .code yX5_moveStack cX5_moveStack 2 none :: wC
set_option maxRecDepth 100000 in
set_option maxHeartbeats 4000000 in
theorem metX5_moveStack (l : Launch) (D : va_G) (ad : Nat → Nat) (tc : Nat → ClassId) : mMet l D vwCl ad tc shC yX5_moveStack wkX5_moveStack rmX5_moveStack spX5_moveStack :=
  mMet_of (own := RX5) (ret := none) (Fd := fdX5_moveStack) (Cl := clX5_moveStack) (Ks := []) (Fi := [(9, 0)]) (Ci := []) (bs := bsX5_moveStack) rfl (by decide +kernel) rfl (by decide +kernel)
    (List.forall_mem_cons.mpr ⟨⟨RX5, TX5, 9, rfl, by decide, fun w h => mIn (inC_X5 w h), mIn (mAt (i := 48) (by decide +kernel)), fun h => absurd h (by decide)⟩, fun _ h => absurd h List.not_mem_nil⟩)
    (fun _ h => absurd h List.not_mem_nil)
    (fun _ h => absurd h List.not_mem_nil) rfl rfl (by decide +kernel) (by decide) (by decide)
-- FlashBoard$Memory.pop
def bsX5_pop : List mBl := [(0, [(0, .aload_n 0, [], 0, 0), (1, .aload_n 0, [], 0, 0), (2, .invokevirtual 117, [], 0, 0), (5, .iconst 1, [], 1, 0), (6, .iadd, [], 0, 0), (7, .invokevirtual 123, [], 0, 1), (10, .aload_n 0, [], 0, 0), (11, .aload_n 0, [], 0, 0), (12, .invokevirtual 117, [], 0, 0), (15, .invokevirtual 126, [], 0, 2), (18, .ireturn, [], 0, 0)], 19)]
def fdX5_pop : mFt := []
def clX5_pop : mCt := [(117, 0, 0, 8, spX5_stackPointer), (123, 0, 1, 8, spX5_moveStack), (126, 0, 1, 8, spX5_load)]
def spX5_pop : mSp := mSpOf shC fdX5_pop clX5_pop bsX5_pop 1 (some .int)
abbrev rmX5_pop : Room := { frames := 2, cells := 0, slots := 0, locals := 43 }
abbrev wkX5_pop : List Jvm.Cond := .code yX5_pop cX5_pop 1 (some .int) :: wC
set_option maxRecDepth 100000 in
set_option maxHeartbeats 4000000 in
theorem metX5_pop (l : Launch) (D : va_G) (ad : Nat → Nat) (tc : Nat → ClassId) : mMet l D vwCl ad tc shC yX5_pop wkX5_pop rmX5_pop spX5_pop :=
  mMet_of (own := RX5) (ret := (some .int)) (Fd := fdX5_pop) (Cl := clX5_pop) (Ks := []) (Fi := []) (Ci := [(117, 0), (123, 0), (126, 0)]) (bs := bsX5_pop) rfl (by decide +kernel) rfl (by decide +kernel)
    (fun _ h => absurd h List.not_mem_nil)
    (fun _ h => absurd h List.not_mem_nil)
    (List.forall_mem_cons.mpr ⟨Or.inl ⟨rfl, RX5, TX5, 9, yX5_stackPointer, cX5_stackPointer, 1, (some .int), wkX5_stackPointer, _, rmX5_stackPointer, rfl, mGoodV goodC (mAt (i := 151) (by decide +kernel)) (mAt (i := 152) (by decide +kernel)) (mAt (i := 153) (by decide +kernel)) (mAt (i := 77) (by decide +kernel)) (mAt (i := 148) (by decide +kernel)), rfl, rfl, rfl, by decide +kernel, by decide, metX5_stackPointer l D ad tc⟩, List.forall_mem_cons.mpr ⟨Or.inl ⟨rfl, RX5, TX5, 9, yX5_moveStack, cX5_moveStack, 2, none, wkX5_moveStack, _, rmX5_moveStack, rfl, mGoodV goodC (mAt (i := 154) (by decide +kernel)) (mAt (i := 155) (by decide +kernel)) (mAt (i := 156) (by decide +kernel)) (mAt (i := 77) (by decide +kernel)) (mAt (i := 149) (by decide +kernel)), rfl, rfl, rfl, by decide +kernel, by decide, metX5_moveStack l D ad tc⟩, List.forall_mem_cons.mpr ⟨Or.inl ⟨rfl, RX5, TX5, 9, yX5_load, cX5_load, 3, (some .int), wkX5_load, _, rmX5_load, rfl, mGoodV goodC (mAt (i := 157) (by decide +kernel)) (mAt (i := 120) (by decide +kernel)) (mAt (i := 121) (by decide +kernel)) (mAt (i := 77) (by decide +kernel)) (mAt (i := 102) (by decide +kernel)), rfl, rfl, rfl, by decide +kernel, by decide, metX5_load l D ad tc⟩, fun _ h => absurd h List.not_mem_nil⟩⟩⟩) rfl rfl (by decide +kernel) (by decide) (by decide)
-- FlashBoard$Core.popPc
def bsX1_popPc : List mBl := [(0, [(0, .aload_n 0, [], 0, 0), (1, .getfield 9, [], 0, 0), (4, .invokevirtual 135, [], 0, 0), (7, .istore_n 1, [], 0, 0), (8, .aload_n 0, [], 0, 0), (9, .getfield 9, [], 0, 0), (12, .invokevirtual 135, [], 0, 0), (15, .istore_n 2, [], 0, 0), (16, .aload_n 0, [], 0, 0), (17, .iload_n 1, [], 0, 0), (18, .bipush 8, [], 8, 0), (20, .ishl, [], 0, 0), (21, .iload_n 2, [], 0, 0), (22, .ior, [], 0, 0), (23, .sipush 2047, [], 2047, 0), (26, .iand, [], 0, 0), (27, .putfield 36, [], 0, 1), (30, .return_, [], 0, 0)], 31)]
def fdX1_popPc : mFt := [(9, 4, 0, 0), (36, 4, 4, 1)]
def clX1_popPc : mCt := [(135, 0, 0, 8, spX5_pop)]
def spX1_popPc : mSp := mSpOf shC fdX1_popPc clX1_popPc bsX1_popPc 1 none
abbrev rmX1_popPc : Room := { frames := 3, cells := 0, slots := 0, locals := 63 }
abbrev wkX1_popPc : List Jvm.Cond := .code yX1_popPc cX1_popPc 3 none :: wC
set_option maxRecDepth 100000 in
set_option maxHeartbeats 4000000 in
theorem metX1_popPc (l : Launch) (D : va_G) (ad : Nat → Nat) (tc : Nat → ClassId) : mMet l D vwCl ad tc shC yX1_popPc wkX1_popPc rmX1_popPc spX1_popPc :=
  mMet_of (own := RX1) (ret := none) (Fd := fdX1_popPc) (Cl := clX1_popPc) (Ks := []) (Fi := [(9, 0), (36, 0)]) (Ci := [(135, 0)]) (bs := bsX1_popPc) rfl (by decide +kernel) rfl (by decide +kernel)
    (List.forall_mem_cons.mpr ⟨⟨RX1, TX1, 8, rfl, by decide, fun w h => mIn (inC_X1 w h), mIn (mAt (i := 108) (by decide +kernel)), fun h => absurd h (by decide)⟩, List.forall_mem_cons.mpr ⟨⟨RX1, TX1, 8, rfl, by decide, fun w h => mIn (inC_X1 w h), mIn (mAt (i := 123) (by decide +kernel)), fun _ => ⟨tyX1, tyX1_ok, nmX1, rfl, by decide +kernel⟩⟩, fun _ h => absurd h List.not_mem_nil⟩⟩)
    (fun _ h => absurd h List.not_mem_nil)
    (List.forall_mem_cons.mpr ⟨Or.inl ⟨rfl, RX5, TX5, 9, yX5_pop, cX5_pop, 1, (some .int), wkX5_pop, _, rmX5_pop, rfl, mGoodV goodC (mAt (i := 159) (by decide +kernel)) (mAt (i := 160) (by decide +kernel)) (mAt (i := 161) (by decide +kernel)) (mAt (i := 77) (by decide +kernel)) (mAt (i := 150) (by decide +kernel)), rfl, rfl, rfl, by decide +kernel, by decide, metX5_pop l D ad tc⟩, fun _ h => absurd h List.not_mem_nil⟩) rfl rfl (by decide +kernel) (by decide) (by decide)
-- FlashBoard$Flash.command
def bsX3_command : List mBl := [(0, [(0, .aload_n 0, [], 0, 0), (1, .getfield 9, [], 0, 0), (4, .bipush 87, [], 87, 0), (6, .iaload, [], 0, 0), (7, .iconst 1, [], 1, 0), (8, .ishr, [], 0, 0), (9, .bipush 15, [], 15, 0), (11, .iand, [], 0, 0), (12, .ireturn, [], 0, 0)], 13)]
def fdX3_command : mFt := [(9, 6, 1, 0)]
def clX3_command : mCt := []
def spX3_command : mSp := mSpOf shC fdX3_command clX3_command bsX3_command 1 (some .int)
abbrev rmX3_command : Room := { frames := 0, cells := 0, slots := 0, locals := 0 }
abbrev wkX3_command : List Jvm.Cond := .code yX3_command cX3_command 1 (some .int) :: wC
set_option maxRecDepth 100000 in
set_option maxHeartbeats 4000000 in
theorem metX3_command (l : Launch) (D : va_G) (ad : Nat → Nat) (tc : Nat → ClassId) : mMet l D vwCl ad tc shC yX3_command wkX3_command rmX3_command spX3_command :=
  mMet_of (own := RX3) (ret := (some .int)) (Fd := fdX3_command) (Cl := clX3_command) (Ks := []) (Fi := [(9, 0)]) (Ci := []) (bs := bsX3_command) rfl (by decide +kernel) rfl (by decide +kernel)
    (List.forall_mem_cons.mpr ⟨⟨RX3, TX3, 8, rfl, by decide, fun w h => mIn (inC_X3 w h), mIn (mAt (i := 51) (by decide +kernel)), fun h => absurd h (by decide)⟩, fun _ h => absurd h List.not_mem_nil⟩)
    (fun _ h => absurd h List.not_mem_nil)
    (fun _ h => absurd h List.not_mem_nil) rfl rfl (by decide +kernel) (by decide) (by decide)
-- FlashBoard$Flash.endCommand
def bsX3_endCommand : List mBl := [(0, [(0, .aload_n 0, [], 0, 0), (1, .getfield 9, [], 0, 0), (4, .bipush 87, [], 87, 0), (6, .dup2, [], 0, 0), (7, .iaload, [], 0, 0), (8, .bipush (-32), [], (-32), 0), (10, .iand, [], 0, 0), (11, .iastore, [], 0, 0), (12, .return_, [], 0, 0)], 13)]
def fdX3_endCommand : mFt := [(9, 6, 1, 0)]
def clX3_endCommand : mCt := []
def spX3_endCommand : mSp := mSpOf shC fdX3_endCommand clX3_endCommand bsX3_endCommand 1 none
abbrev rmX3_endCommand : Room := { frames := 0, cells := 0, slots := 0, locals := 0 }
abbrev wkX3_endCommand : List Jvm.Cond := .code yX3_endCommand cX3_endCommand 1 none :: wC
set_option maxRecDepth 100000 in
set_option maxHeartbeats 4000000 in
theorem metX3_endCommand (l : Launch) (D : va_G) (ad : Nat → Nat) (tc : Nat → ClassId) : mMet l D vwCl ad tc shC yX3_endCommand wkX3_endCommand rmX3_endCommand spX3_endCommand :=
  mMet_of (own := RX3) (ret := none) (Fd := fdX3_endCommand) (Cl := clX3_endCommand) (Ks := []) (Fi := [(9, 0)]) (Ci := []) (bs := bsX3_endCommand) rfl (by decide +kernel) rfl (by decide +kernel)
    (List.forall_mem_cons.mpr ⟨⟨RX3, TX3, 8, rfl, by decide, fun w h => mIn (inC_X3 w h), mIn (mAt (i := 51) (by decide +kernel)), fun h => absurd h (by decide)⟩, fun _ h => absurd h List.not_mem_nil⟩)
    (fun _ h => absurd h List.not_mem_nil)
    (fun _ h => absurd h List.not_mem_nil) rfl rfl (by decide +kernel) (by decide) (by decide)
-- FlashBoard$Flash.isHidden
def bsX3_isHidden : List mBl := [(0, [(0, .iload_n 1, [], 0, 0), (1, .sipush 1536, [], 1536, 0), (4, .if_icmp .lt 26, [(30, 0)], 0, 0), (7, .iload_n 2, [], 0, 0), (8, .sipush 1536, [], 1536, 0), (11, .if_icmp .ge 17, [(28, 0)], 0, 0), (14, .aload_n 0, [], 0, 0), (15, .getfield 21, [], 0, 0), (18, .bipush 8, [], 8, 0), (20, .iand, [], 0, 0), (21, .ifCond .ne 7, [(28, 0)], 0, 0), (24, .iconst 1, [], 1, 0), (25, .goto 4, [(29, 0)], 0, 0)], 28),
  (28, [(28, .iconst 0, [], 0, 0)], 29),
  (29, [(29, .ireturn, [], 0, 0)], 30),
  (30, [(30, .iload_n 2, [], 0, 0), (31, .sipush 1536, [], 1536, 0), (34, .if_icmp .lt 16, [(50, 0)], 0, 0), (37, .aload_n 0, [], 0, 0), (38, .getfield 21, [], 0, 0), (41, .iconst 2, [], 2, 0), (42, .iand, [], 0, 0), (43, .ifCond .ne 7, [(50, 0)], 0, 0), (46, .iconst 1, [], 1, 0), (47, .goto 4, [(51, 0)], 0, 0)], 50),
  (50, [(50, .iconst 0, [], 0, 0)], 51),
  (51, [(51, .ireturn, [], 0, 0)], 52)]
def fdX3_isHidden : mFt := [(21, 6, 4, 1)]
def clX3_isHidden : mCt := []
def spX3_isHidden : mSp := mSpOf shC fdX3_isHidden clX3_isHidden bsX3_isHidden 3 (some .boolean)
abbrev rmX3_isHidden : Room := { frames := 0, cells := 0, slots := 0, locals := 0 }
abbrev wkX3_isHidden : List Jvm.Cond := .code yX3_isHidden cX3_isHidden 3 (some .boolean) :: wC
set_option maxRecDepth 100000 in
set_option maxHeartbeats 4000000 in
theorem metX3_isHidden (l : Launch) (D : va_G) (ad : Nat → Nat) (tc : Nat → ClassId) : mMet l D vwCl ad tc shC yX3_isHidden wkX3_isHidden rmX3_isHidden spX3_isHidden :=
  mMet_of (own := RX3) (ret := (some .boolean)) (Fd := fdX3_isHidden) (Cl := clX3_isHidden) (Ks := []) (Fi := [(21, 0)]) (Ci := []) (bs := bsX3_isHidden) rfl (by decide +kernel) rfl (by decide +kernel)
    (List.forall_mem_cons.mpr ⟨⟨RX3, TX3, 8, rfl, by decide, fun w h => mIn (inC_X3 w h), mIn (mAt (i := 165) (by decide +kernel)), fun _ => ⟨tyX3, tyX3_ok, nmX3, rfl, by decide +kernel⟩⟩, fun _ h => absurd h List.not_mem_nil⟩)
    (fun _ h => absurd h List.not_mem_nil)
    (fun _ h => absurd h List.not_mem_nil) rfl rfl (by decide +kernel) (by decide) (by decide)
-- FlashBoard$Flash.seenByte
def bsX3_seenByte : List mBl := [(0, [(0, .aload_n 0, [], 0, 0), (1, .getfield 44, [], 0, 0), (4, .ifCond .le 53, [(57, 0)], 0, 0), (7, .aload_n 0, [], 0, 0), (8, .invokevirtual 56, [], 0, 0), (11, .iconst 4, [], 4, 0), (12, .if_icmp .ne 45, [(57, 0)], 0, 0), (15, .aload_n 0, [], 0, 0), (16, .iconst 0, [], 0, 0), (17, .putfield 44, [], 0, 0), (20, .aload_n 0, [], 0, 0), (21, .invokevirtual 53, [], 0, 1), (24, .iload_n 1, [], 0, 0), (25, .iconst 1, [], 1, 0), (26, .if_icmp .ne 12, [(38, 0)], 0, 0), (29, .aload_n 0, [], 0, 0), (30, .getfield 21, [], 0, 1), (33, .sipush 240, [], 240, 0), (36, .ior, [], 0, 0), (37, .ireturn, [], 0, 0)], 38),
  (38, [(38, .iload_n 1, [], 0, 0), (39, .ifCond .ne 14, [(53, 0)], 0, 0), (42, .aload_n 0, [], 0, 0), (43, .getfield 25, [], 0, 2), (46, .sipush 254, [], 254, 0), (49, .ior, [], 0, 0), (50, .goto 6, [(56, 0)], 0, 0)], 53),
  (53, [(53, .sipush 255, [], 255, 0)], 56),
  (56, [(56, .ireturn, [], 0, 0)], 57),
  (57, [(57, .iload_n 1, [], 0, 0), (58, .iconst 1, [], 1, 0), (59, .ishr, [], 0, 0), (60, .sipush 2047, [], 2047, 0), (63, .iand, [], 0, 0), (64, .istore_n 3, [], 0, 0), (65, .aload_n 0, [], 0, 0), (66, .iload_n 3, [], 0, 0), (67, .iload_n 2, [], 0, 0), (68, .invokevirtual 60, [], 0, 2), (71, .ifCond .eq 7, [(78, 0)], 0, 0), (74, .sipush 255, [], 255, 0), (77, .ireturn, [], 0, 0)], 78),
  (78, [(78, .iload_n 1, [], 0, 0), (79, .iconst 1, [], 1, 0), (80, .iand, [], 0, 0), (81, .ifCond .ne 15, [(96, 0)], 0, 0), (84, .aload_n 0, [], 0, 0), (85, .iload_n 3, [], 0, 0), (86, .invokevirtual 64, [], 0, 3), (89, .sipush 255, [], 255, 0), (92, .iand, [], 0, 0), (93, .goto 11, [(104, 0)], 0, 0)], 96),
  (96, [(96, .aload_n 0, [], 0, 0), (97, .iload_n 3, [], 0, 0), (98, .invokevirtual 64, [], 0, 3), (101, .bipush 8, [], 8, 0), (103, .ishr, [], 0, 0)], 104),
  (104, [(104, .ireturn, [], 0, 0)], 105)]
def fdX3_seenByte : mFt := [(44, 6, 6, 1), (21, 6, 4, 1), (25, 6, 5, 1)]
def clX3_seenByte : mCt := [(56, 0, 0, 6, spX3_command), (53, 0, 0, 6, spX3_endCommand), (60, 0, 2, 6, spX3_isHidden), (64, 0, 1, 6, spX3_seen)]
def spX3_seenByte : mSp := mSpOf shC fdX3_seenByte clX3_seenByte bsX3_seenByte 3 (some .int)
abbrev rmX3_seenByte : Room := { frames := 1, cells := 0, slots := 0, locals := 22 }
abbrev wkX3_seenByte : List Jvm.Cond := .code yX3_seenByte cX3_seenByte 4 (some .int) :: wC
set_option maxRecDepth 100000 in
set_option maxHeartbeats 4000000 in
theorem metX3_seenByte (l : Launch) (D : va_G) (ad : Nat → Nat) (tc : Nat → ClassId) : mMet l D vwCl ad tc shC yX3_seenByte wkX3_seenByte rmX3_seenByte spX3_seenByte :=
  mMet_of (own := RX3) (ret := (some .int)) (Fd := fdX3_seenByte) (Cl := clX3_seenByte) (Ks := []) (Fi := [(44, 0), (21, 0), (25, 0)]) (Ci := [(56, 0), (53, 0), (60, 0), (64, 0)]) (bs := bsX3_seenByte) rfl (by decide +kernel) rfl (by decide +kernel)
    (List.forall_mem_cons.mpr ⟨⟨RX3, TX3, 8, rfl, by decide, fun w h => mIn (inC_X3 w h), mIn (mAt (i := 53) (by decide +kernel)), fun _ => ⟨tyX3, tyX3_ok, nmX3, rfl, by decide +kernel⟩⟩, List.forall_mem_cons.mpr ⟨⟨RX3, TX3, 8, rfl, by decide, fun w h => mIn (inC_X3 w h), mIn (mAt (i := 165) (by decide +kernel)), fun _ => ⟨tyX3, tyX3_ok, nmX3, rfl, by decide +kernel⟩⟩, List.forall_mem_cons.mpr ⟨⟨RX3, TX3, 8, rfl, by decide, fun w h => mIn (inC_X3 w h), mIn (mAt (i := 167) (by decide +kernel)), fun _ => ⟨tyX3, tyX3_ok, nmX3, rfl, by decide +kernel⟩⟩, fun _ h => absurd h List.not_mem_nil⟩⟩⟩)
    (fun _ h => absurd h List.not_mem_nil)
    (List.forall_mem_cons.mpr ⟨Or.inl ⟨rfl, RX3, TX3, 8, yX3_command, cX3_command, 1, (some .int), wkX3_command, _, rmX3_command, rfl, mGoodV goodC (mAt (i := 168) (by decide +kernel)) (mAt (i := 169) (by decide +kernel)) (mAt (i := 170) (by decide +kernel)) (mAt (i := 81) (by decide +kernel)) (mAt (i := 162) (by decide +kernel)), rfl, rfl, rfl, by decide +kernel, by decide, metX3_command l D ad tc⟩, List.forall_mem_cons.mpr ⟨Or.inl ⟨rfl, RX3, TX3, 8, yX3_endCommand, cX3_endCommand, 1, none, wkX3_endCommand, _, rmX3_endCommand, rfl, mGoodV goodC (mAt (i := 171) (by decide +kernel)) (mAt (i := 172) (by decide +kernel)) (mAt (i := 173) (by decide +kernel)) (mAt (i := 81) (by decide +kernel)) (mAt (i := 163) (by decide +kernel)), rfl, rfl, rfl, by decide +kernel, by decide, metX3_endCommand l D ad tc⟩, List.forall_mem_cons.mpr ⟨Or.inl ⟨rfl, RX3, TX3, 8, yX3_isHidden, cX3_isHidden, 3, (some .boolean), wkX3_isHidden, _, rmX3_isHidden, rfl, mGoodV goodC (mAt (i := 174) (by decide +kernel)) (mAt (i := 175) (by decide +kernel)) (mAt (i := 176) (by decide +kernel)) (mAt (i := 81) (by decide +kernel)) (mAt (i := 164) (by decide +kernel)), rfl, rfl, rfl, by decide +kernel, by decide, metX3_isHidden l D ad tc⟩, List.forall_mem_cons.mpr ⟨Or.inl ⟨rfl, RX3, TX3, 8, yX3_seen, cX3_seen, 3, (some .int), wkX3_seen, _, rmX3_seen, rfl, mGoodV goodC (mAt (i := 177) (by decide +kernel)) (mAt (i := 130) (by decide +kernel)) (mAt (i := 131) (by decide +kernel)) (mAt (i := 81) (by decide +kernel)) (mAt (i := 124) (by decide +kernel)), rfl, rfl, rfl, by decide +kernel, by decide, metX3_seen l D ad tc⟩, fun _ h => absurd h List.not_mem_nil⟩⟩⟩⟩) rfl rfl (by decide +kernel) (by decide) (by decide)
