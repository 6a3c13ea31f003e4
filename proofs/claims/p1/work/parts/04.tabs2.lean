-- FlashBoard$Flash.burnPair
def bsX3_burnPair : List mBl := [(0, [(0, .iconst 0, [], 0, 0), (1, .istore_n 3, [], 0, 0), (2, .iload_n 1, [], 0, 0), (3, .sipush 2048, [], 2048, 0), (6, .if_icmp .ge 16, [(22, 0)], 0, 0), (9, .aload_n 0, [], 0, 0), (10, .getfield 15, [], 0, 0), (13, .iload_n 1, [], 0, 0), (14, .iload_n 2, [], 0, 0), (15, .bipush 16, [], 16, 0), (17, .iushr, [], 0, 0), (18, .iastore, [], 0, 0), (19, .iinc 3 1, [], 1, 0)], 22),
  (22, [(22, .iload_n 1, [], 0, 0), (23, .iconst 1, [], 1, 0), (24, .iadd, [], 0, 0), (25, .sipush 2048, [], 2048, 0), (28, .if_icmp .ge 18, [(46, 0)], 0, 0), (31, .aload_n 0, [], 0, 0), (32, .getfield 15, [], 0, 0), (35, .iload_n 1, [], 0, 0), (36, .iconst 1, [], 1, 0), (37, .iadd, [], 0, 0), (38, .iload_n 2, [], 0, 0), (39, .ldc 28, [], 65535, 0), (41, .iand, [], 0, 0), (42, .iastore, [], 0, 0), (43, .iinc 3 1, [], 1, 0)], 46),
  (46, [(46, .iload_n 3, [], 0, 0), (47, .ireturn, [], 0, 0)], 48)]
def fdX3_burnPair : mFt := [(15, 6, 0, 0)]
def clX3_burnPair : mCt := []
def spX3_burnPair : mSp := mSpOf shC fdX3_burnPair clX3_burnPair bsX3_burnPair 3 (some .int)
abbrev rmX3_burnPair : Room := { frames := 0, cells := 0, slots := 0, locals := 0 }
abbrev wkX3_burnPair : List Jvm.Cond := .code yX3_burnPair cX3_burnPair 4 (some .int) :: wC
set_option maxRecDepth 100000 in
set_option maxHeartbeats 4000000 in
theorem metX3_burnPair (l : Launch) (D : va_G) (ad : Nat → Nat) (tc : Nat → ClassId) : mMet l D vwCl ad tc shC yX3_burnPair wkX3_burnPair rmX3_burnPair spX3_burnPair :=
  mMet_of (own := RX3) (ret := (some .int)) (Fd := fdX3_burnPair) (Cl := clX3_burnPair) (Ks := [(28, 65535)]) (Fi := [(15, 0)]) (Ci := []) (bs := bsX3_burnPair) rfl (by decide +kernel) rfl (by decide +kernel)
    (List.forall_mem_cons.mpr ⟨⟨RX3, TX3, 8, rfl, by decide, fun w h => mIn (inC_X3 w h), mIn (mAt (i := 125) (by decide +kernel)), fun h => absurd h (by decide)⟩, fun _ h => absurd h List.not_mem_nil⟩)
    (List.forall_mem_cons.mpr ⟨mIn (mAt (i := 126) (by decide +kernel)), fun _ h => absurd h List.not_mem_nil⟩)
    (fun _ h => absurd h List.not_mem_nil) rfl rfl (by decide +kernel) (by decide) (by decide)
-- FlashBoard$Flash.clear
def bsX3_clear : List mBl := [(0, [(0, .aload_n 0, [], 0, 0), (1, .iconst 0, [], 0, 0), (2, .putfield 44, [], 0, 0), (5, .aload_n 0, [], 0, 0), (6, .iconst 0, [], 0, 0), (7, .putfield 47, [], 0, 1), (10, .aload_n 0, [], 0, 0), (11, .iconst 0, [], 0, 0), (12, .putfield 50, [], 0, 2), (15, .return_, [], 0, 0)], 16)]
def fdX3_clear : mFt := [(44, 6, 6, 1), (47, 6, 7, 1), (50, 6, 3, 1)]
def clX3_clear : mCt := []
def spX3_clear : mSp := mSpOf shC fdX3_clear clX3_clear bsX3_clear 1 none
abbrev rmX3_clear : Room := { frames := 0, cells := 0, slots := 0, locals := 0 }
abbrev wkX3_clear : List Jvm.Cond := .code yX3_clear cX3_clear 1 none :: wC
set_option maxRecDepth 100000 in
set_option maxHeartbeats 4000000 in
theorem metX3_clear (l : Launch) (D : va_G) (ad : Nat → Nat) (tc : Nat → ClassId) : mMet l D vwCl ad tc shC yX3_clear wkX3_clear rmX3_clear spX3_clear :=
  mMet_of (own := RX3) (ret := none) (Fd := fdX3_clear) (Cl := clX3_clear) (Ks := []) (Fi := [(44, 0), (47, 0), (50, 0)]) (Ci := []) (bs := bsX3_clear) rfl (by decide +kernel) rfl (by decide +kernel)
    (List.forall_mem_cons.mpr ⟨⟨RX3, TX3, 8, rfl, by decide, fun w h => mIn (inC_X3 w h), mIn (mAt (i := 53) (by decide +kernel)), fun _ => ⟨tyX3, tyX3_ok, nmX3, rfl, by decide +kernel⟩⟩, List.forall_mem_cons.mpr ⟨⟨RX3, TX3, 8, rfl, by decide, fun w h => mIn (inC_X3 w h), mIn (mAt (i := 52) (by decide +kernel)), fun _ => ⟨tyX3, tyX3_ok, nmX3, rfl, by decide +kernel⟩⟩, List.forall_mem_cons.mpr ⟨⟨RX3, TX3, 8, rfl, by decide, fun w h => mIn (inC_X3 w h), mIn (mAt (i := 184) (by decide +kernel)), fun _ => ⟨tyX3, tyX3_ok, nmX3, rfl, by decide +kernel⟩⟩, fun _ h => absurd h List.not_mem_nil⟩⟩⟩)
    (fun _ h => absurd h List.not_mem_nil)
    (fun _ h => absurd h List.not_mem_nil) rfl rfl (by decide +kernel) (by decide) (by decide)
-- FlashBoard$Flash.cycle
def bsX3_cycle : List mBl := [(0, [(0, .aload_n 0, [], 0, 0), (1, .getfield 44, [], 0, 0), (4, .ifCond .le 24, [(28, 0)], 0, 0), (7, .aload_n 0, [], 0, 0), (8, .dup, [], 0, 0), (9, .getfield 44, [], 0, 0), (12, .iconst 1, [], 1, 0), (13, .isub, [], 0, 0), (14, .putfield 44, [], 0, 0), (17, .aload_n 0, [], 0, 0), (18, .getfield 44, [], 0, 0), (21, .ifCond .ne 7, [(28, 0)], 0, 0), (24, .aload_n 0, [], 0, 0), (25, .invokevirtual 53, [], 0, 0)], 28),
  (28, [(28, .aload_n 0, [], 0, 0), (29, .getfield 47, [], 0, 1), (32, .ifCond .le 24, [(56, 0)], 0, 0), (35, .aload_n 0, [], 0, 0), (36, .dup, [], 0, 0), (37, .getfield 47, [], 0, 1), (40, .iconst 1, [], 1, 0), (41, .isub, [], 0, 0), (42, .putfield 47, [], 0, 1), (45, .aload_n 0, [], 0, 0), (46, .getfield 47, [], 0, 1), (49, .ifCond .ne 7, [(56, 0)], 0, 0), (52, .aload_n 0, [], 0, 0), (53, .invokevirtual 53, [], 0, 0)], 56),
  (56, [(56, .return_, [], 0, 0)], 57)]
def fdX3_cycle : mFt := [(44, 6, 6, 1), (47, 6, 7, 1)]
def clX3_cycle : mCt := [(53, 0, 0, 6, spX3_endCommand)]
def spX3_cycle : mSp := mSpOf shC fdX3_cycle clX3_cycle bsX3_cycle 1 none
abbrev rmX3_cycle : Room := { frames := 1, cells := 0, slots := 0, locals := 20 }
abbrev wkX3_cycle : List Jvm.Cond := .code yX3_cycle cX3_cycle 1 none :: wC
set_option maxRecDepth 100000 in
set_option maxHeartbeats 4000000 in
theorem metX3_cycle (l : Launch) (D : va_G) (ad : Nat → Nat) (tc : Nat → ClassId) : mMet l D vwCl ad tc shC yX3_cycle wkX3_cycle rmX3_cycle spX3_cycle :=
  mMet_of (own := RX3) (ret := none) (Fd := fdX3_cycle) (Cl := clX3_cycle) (Ks := []) (Fi := [(44, 0), (47, 0)]) (Ci := [(53, 0)]) (bs := bsX3_cycle) rfl (by decide +kernel) rfl (by decide +kernel)
    (List.forall_mem_cons.mpr ⟨⟨RX3, TX3, 8, rfl, by decide, fun w h => mIn (inC_X3 w h), mIn (mAt (i := 53) (by decide +kernel)), fun _ => ⟨tyX3, tyX3_ok, nmX3, rfl, by decide +kernel⟩⟩, List.forall_mem_cons.mpr ⟨⟨RX3, TX3, 8, rfl, by decide, fun w h => mIn (inC_X3 w h), mIn (mAt (i := 52) (by decide +kernel)), fun _ => ⟨tyX3, tyX3_ok, nmX3, rfl, by decide +kernel⟩⟩, fun _ h => absurd h List.not_mem_nil⟩⟩)
    (fun _ h => absurd h List.not_mem_nil)
    (List.forall_mem_cons.mpr ⟨Or.inl ⟨rfl, RX3, TX3, 8, yX3_endCommand, cX3_endCommand, 1, none, wkX3_endCommand, _, rmX3_endCommand, rfl, mGoodV goodC (mAt (i := 171) (by decide +kernel)) (mAt (i := 172) (by decide +kernel)) (mAt (i := 173) (by decide +kernel)) (mAt (i := 81) (by decide +kernel)) (mAt (i := 163) (by decide +kernel)), rfl, rfl, rfl, by decide +kernel, by decide, metX3_endCommand l D ad tc⟩, fun _ h => absurd h List.not_mem_nil⟩) rfl rfl (by decide +kernel) (by decide) (by decide)
-- FlashBoard$Line.clear
def bsX4_clear : List mBl := [(0, [(0, .aload_n 0, [], 0, 0), (1, .iconst 0, [], 0, 0), (2, .putfield 21, [], 0, 0), (5, .aload_n 0, [], 0, 0), (6, .iconst 0, [], 0, 0), (7, .putfield 25, [], 0, 1), (10, .aload_n 0, [], 0, 0), (11, .iconst 0, [], 0, 0), (12, .putfield 29, [], 0, 2), (15, .aload_n 0, [], 0, 0), (16, .iconst 0, [], 0, 0), (17, .putfield 32, [], 0, 3), (20, .aload_n 0, [], 0, 0), (21, .getfield 9, [], 0, 4), (24, .sipush 192, [], 192, 0), (27, .bipush 32, [], 32, 0), (29, .iastore, [], 0, 0), (30, .return_, [], 0, 0)], 31)]
def fdX4_clear : mFt := [(21, 7, 7, 2), (25, 7, 9, 1), (29, 7, 11, 1), (32, 7, 14, 1), (9, 7, 0, 0)]
def clX4_clear : mCt := []
def spX4_clear : mSp := mSpOf shC fdX4_clear clX4_clear bsX4_clear 1 none
abbrev rmX4_clear : Room := { frames := 0, cells := 0, slots := 0, locals := 0 }
abbrev wkX4_clear : List Jvm.Cond := .code yX4_clear cX4_clear 1 none :: wC
set_option maxRecDepth 100000 in
set_option maxHeartbeats 4000000 in
theorem metX4_clear (l : Launch) (D : va_G) (ad : Nat → Nat) (tc : Nat → ClassId) : mMet l D vwCl ad tc shC yX4_clear wkX4_clear rmX4_clear spX4_clear :=
  mMet_of (own := RX4) (ret := none) (Fd := fdX4_clear) (Cl := clX4_clear) (Ks := []) (Fi := [(21, 0), (25, 0), (29, 0), (32, 0), (9, 0)]) (Ci := []) (bs := bsX4_clear) rfl (by decide +kernel) rfl (by decide +kernel)
    (List.forall_mem_cons.mpr ⟨⟨RX4, TX4, 15, rfl, by decide, fun w h => mIn (inC_X4 w h), mIn (mAt (i := 60) (by decide +kernel)), fun _ => ⟨tyX4, tyX4_ok, nmX4, rfl, by decide +kernel⟩⟩, List.forall_mem_cons.mpr ⟨⟨RX4, TX4, 15, rfl, by decide, fun w h => mIn (inC_X4 w h), mIn (mAt (i := 365) (by decide +kernel)), fun _ => ⟨tyX4, tyX4_ok, nmX4, rfl, by decide +kernel⟩⟩, List.forall_mem_cons.mpr ⟨⟨RX4, TX4, 15, rfl, by decide, fun w h => mIn (inC_X4 w h), mIn (mAt (i := 366) (by decide +kernel)), fun _ => ⟨tyX4, tyX4_ok, nmX4, rfl, by decide +kernel⟩⟩, List.forall_mem_cons.mpr ⟨⟨RX4, TX4, 15, rfl, by decide, fun w h => mIn (inC_X4 w h), mIn (mAt (i := 99) (by decide +kernel)), fun _ => ⟨tyX4, tyX4_ok, nmX4, rfl, by decide +kernel⟩⟩, List.forall_mem_cons.mpr ⟨⟨RX4, TX4, 15, rfl, by decide, fun w h => mIn (inC_X4 w h), mIn (mAt (i := 58) (by decide +kernel)), fun h => absurd h (by decide)⟩, fun _ h => absurd h List.not_mem_nil⟩⟩⟩⟩⟩)
    (fun _ h => absurd h List.not_mem_nil)
    (fun _ h => absurd h List.not_mem_nil) rfl rfl (by decide +kernel) (by decide) (by decide)
-- FlashBoard$Line.comeOn
def bsX4_comeOn : List mBl := [(0, [(0, .aload_n 0, [], 0, 0), (1, .dup, [], 0, 0), (2, .getfield 29, [], 0, 0), (5, .iconst 1, [], 1, 0), (6, .isub, [], 0, 0), (7, .putfield 29, [], 0, 0), (10, .aload_n 0, [], 0, 0), (11, .getfield 29, [], 0, 0), (14, .ifCond .gt 17, [(31, 0)], 0, 0), (17, .aload_n 0, [], 0, 0), (18, .getfield 9, [], 0, 1), (21, .sipush 193, [], 193, 0), (24, .iaload, [], 0, 0), (25, .bipush 16, [], 16, 0), (27, .iand, [], 0, 0), (28, .ifCond .ne 4, [(32, 0)], 0, 0)], 31),
  (31, [(31, .return_, [], 0, 0)], 32),
  (32, [(32, .aload_n 0, [], 0, 0), (33, .getfield 32, [], 0, 2), (36, .iconst 2, [], 2, 0), (37, .if_icmp .lt 17, [(54, 0)], 0, 0), (40, .aload_n 0, [], 0, 0), (41, .getfield 9, [], 0, 1), (44, .sipush 192, [], 192, 0), (47, .dup2, [], 0, 0), (48, .iaload, [], 0, 0), (49, .bipush 8, [], 8, 0), (51, .ior, [], 0, 0), (52, .iastore, [], 0, 0), (53, .return_, [], 0, 0)], 54),
  (54, [(54, .aload_n 0, [], 0, 0), (55, .getfield 32, [], 0, 2), (58, .ifCond .ne 14, [(72, 0)], 0, 0), (61, .aload_n 0, [], 0, 0), (62, .aload_n 0, [], 0, 0), (63, .getfield 63, [], 0, 3), (66, .putfield 44, [], 0, 4), (69, .goto 11, [(80, 0)], 0, 0)], 72),
  (72, [(72, .aload_n 0, [], 0, 0), (73, .aload_n 0, [], 0, 0), (74, .getfield 63, [], 0, 3), (77, .putfield 47, [], 0, 5)], 80),
  (80, [(80, .aload_n 0, [], 0, 0), (81, .dup, [], 0, 0), (82, .getfield 32, [], 0, 2), (85, .iconst 1, [], 1, 0), (86, .iadd, [], 0, 0), (87, .putfield 32, [], 0, 2), (90, .aload_n 0, [], 0, 0), (91, .getfield 9, [], 0, 1), (94, .sipush 192, [], 192, 0), (97, .dup2, [], 0, 0), (98, .iaload, [], 0, 0), (99, .sipush 128, [], 128, 0), (102, .ior, [], 0, 0), (103, .iastore, [], 0, 0), (104, .return_, [], 0, 0)], 105)]
def fdX4_comeOn : mFt := [(29, 7, 11, 1), (9, 7, 0, 0), (32, 7, 14, 1), (63, 7, 10, 1), (44, 7, 12, 1), (47, 7, 13, 1)]
def clX4_comeOn : mCt := []
def spX4_comeOn : mSp := mSpOf shC fdX4_comeOn clX4_comeOn bsX4_comeOn 1 none
abbrev rmX4_comeOn : Room := { frames := 0, cells := 0, slots := 0, locals := 0 }
abbrev wkX4_comeOn : List Jvm.Cond := .code yX4_comeOn cX4_comeOn 1 none :: wC
set_option maxRecDepth 100000 in
set_option maxHeartbeats 4000000 in
theorem metX4_comeOn (l : Launch) (D : va_G) (ad : Nat → Nat) (tc : Nat → ClassId) : mMet l D vwCl ad tc shC yX4_comeOn wkX4_comeOn rmX4_comeOn spX4_comeOn :=
  mMet_of (own := RX4) (ret := none) (Fd := fdX4_comeOn) (Cl := clX4_comeOn) (Ks := []) (Fi := [(29, 0), (9, 0), (32, 0), (63, 0), (44, 0), (47, 0)]) (Ci := []) (bs := bsX4_comeOn) rfl (by decide +kernel) rfl (by decide +kernel)
    (List.forall_mem_cons.mpr ⟨⟨RX4, TX4, 15, rfl, by decide, fun w h => mIn (inC_X4 w h), mIn (mAt (i := 366) (by decide +kernel)), fun _ => ⟨tyX4, tyX4_ok, nmX4, rfl, by decide +kernel⟩⟩, List.forall_mem_cons.mpr ⟨⟨RX4, TX4, 15, rfl, by decide, fun w h => mIn (inC_X4 w h), mIn (mAt (i := 58) (by decide +kernel)), fun h => absurd h (by decide)⟩, List.forall_mem_cons.mpr ⟨⟨RX4, TX4, 15, rfl, by decide, fun w h => mIn (inC_X4 w h), mIn (mAt (i := 99) (by decide +kernel)), fun _ => ⟨tyX4, tyX4_ok, nmX4, rfl, by decide +kernel⟩⟩, List.forall_mem_cons.mpr ⟨⟨RX4, TX4, 15, rfl, by decide, fun w h => mIn (inC_X4 w h), mIn (mAt (i := 368) (by decide +kernel)), fun _ => ⟨tyX4, tyX4_ok, nmX4, rfl, by decide +kernel⟩⟩, List.forall_mem_cons.mpr ⟨⟨RX4, TX4, 15, rfl, by decide, fun w h => mIn (inC_X4 w h), mIn (mAt (i := 100) (by decide +kernel)), fun _ => ⟨tyX4, tyX4_ok, nmX4, rfl, by decide +kernel⟩⟩, List.forall_mem_cons.mpr ⟨⟨RX4, TX4, 15, rfl, by decide, fun w h => mIn (inC_X4 w h), mIn (mAt (i := 101) (by decide +kernel)), fun _ => ⟨tyX4, tyX4_ok, nmX4, rfl, by decide +kernel⟩⟩, fun _ h => absurd h List.not_mem_nil⟩⟩⟩⟩⟩⟩)
    (fun _ h => absurd h List.not_mem_nil)
    (fun _ h => absurd h List.not_mem_nil) rfl rfl (by decide +kernel) (by decide) (by decide)
-- FlashBoard$Line.sendOn
def bsX4_sendOn : List mBl := [(0, [(0, .aload_n 0, [], 0, 0), (1, .dup, [], 0, 0), (2, .getfield 25, [], 0, 0), (5, .iconst 1, [], 1, 0), (6, .isub, [], 0, 0), (7, .putfield 25, [], 0, 0), (10, .aload_n 0, [], 0, 0), (11, .getfield 25, [], 0, 0), (14, .ifCond .le 4, [(18, 0)], 0, 0), (17, .return_, [], 0, 0)], 18),
  (18, [(18, .aload_n 0, [], 0, 0), (19, .getfield 66, [], 0, 1), (22, .sipush 1000, [], 1000, 0), (25, .if_icmp .ge 16, [(41, 0)], 0, 0), (28, .aload_n 0, [], 0, 0), (29, .getfield 18, [], 0, 2), (32, .aload_n 0, [], 0, 0), (33, .getfield 66, [], 0, 1), (36, .aload_n 0, [], 0, 0), (37, .getfield 53, [], 0, 3), (40, .iastore, [], 0, 0)], 41),
  (41, [(41, .aload_n 0, [], 0, 0), (42, .dup, [], 0, 0), (43, .getfield 66, [], 0, 1), (46, .iconst 1, [], 1, 0), (47, .iadd, [], 0, 0), (48, .putfield 66, [], 0, 1), (51, .aload_n 0, [], 0, 0), (52, .getfield 21, [], 0, 4), (55, .ifCond .ne 16, [(71, 0)], 0, 0), (58, .aload_n 0, [], 0, 0), (59, .getfield 9, [], 0, 5), (62, .sipush 192, [], 192, 0), (65, .dup2, [], 0, 0), (66, .iaload, [], 0, 0), (67, .bipush 64, [], 64, 0), (69, .ior, [], 0, 0), (70, .iastore, [], 0, 0)], 71),
  (71, [(71, .return_, [], 0, 0)], 72)]
def fdX4_sendOn : mFt := [(25, 7, 9, 1), (66, 7, 5, 1), (18, 7, 4, 0), (53, 7, 8, 1), (21, 7, 7, 2), (9, 7, 0, 0)]
def clX4_sendOn : mCt := []
def spX4_sendOn : mSp := mSpOf shC fdX4_sendOn clX4_sendOn bsX4_sendOn 1 none
abbrev rmX4_sendOn : Room := { frames := 0, cells := 0, slots := 0, locals := 0 }
abbrev wkX4_sendOn : List Jvm.Cond := .code yX4_sendOn cX4_sendOn 1 none :: wC
set_option maxRecDepth 100000 in
set_option maxHeartbeats 4000000 in
theorem metX4_sendOn (l : Launch) (D : va_G) (ad : Nat → Nat) (tc : Nat → ClassId) : mMet l D vwCl ad tc shC yX4_sendOn wkX4_sendOn rmX4_sendOn spX4_sendOn :=
  mMet_of (own := RX4) (ret := none) (Fd := fdX4_sendOn) (Cl := clX4_sendOn) (Ks := []) (Fi := [(25, 0), (66, 0), (18, 0), (53, 0), (21, 0), (9, 0)]) (Ci := []) (bs := bsX4_sendOn) rfl (by decide +kernel) rfl (by decide +kernel)
    (List.forall_mem_cons.mpr ⟨⟨RX4, TX4, 15, rfl, by decide, fun w h => mIn (inC_X4 w h), mIn (mAt (i := 365) (by decide +kernel)), fun _ => ⟨tyX4, tyX4_ok, nmX4, rfl, by decide +kernel⟩⟩, List.forall_mem_cons.mpr ⟨⟨RX4, TX4, 15, rfl, by decide, fun w h => mIn (inC_X4 w h), mIn (mAt (i := 370) (by decide +kernel)), fun _ => ⟨tyX4, tyX4_ok, nmX4, rfl, by decide +kernel⟩⟩, List.forall_mem_cons.mpr ⟨⟨RX4, TX4, 15, rfl, by decide, fun w h => mIn (inC_X4 w h), mIn (mAt (i := 371) (by decide +kernel)), fun h => absurd h (by decide)⟩, List.forall_mem_cons.mpr ⟨⟨RX4, TX4, 15, rfl, by decide, fun w h => mIn (inC_X4 w h), mIn (mAt (i := 372) (by decide +kernel)), fun _ => ⟨tyX4, tyX4_ok, nmX4, rfl, by decide +kernel⟩⟩, List.forall_mem_cons.mpr ⟨⟨RX4, TX4, 15, rfl, by decide, fun w h => mIn (inC_X4 w h), mIn (mAt (i := 60) (by decide +kernel)), fun _ => ⟨tyX4, tyX4_ok, nmX4, rfl, by decide +kernel⟩⟩, List.forall_mem_cons.mpr ⟨⟨RX4, TX4, 15, rfl, by decide, fun w h => mIn (inC_X4 w h), mIn (mAt (i := 58) (by decide +kernel)), fun h => absurd h (by decide)⟩, fun _ h => absurd h List.not_mem_nil⟩⟩⟩⟩⟩⟩)
    (fun _ h => absurd h List.not_mem_nil)
    (fun _ h => absurd h List.not_mem_nil) rfl rfl (by decide +kernel) (by decide) (by decide)
-- FlashBoard$Line.frame
def bsX4_frame : List mBl := [(0, [(0, .aload_n 0, [], 0, 0), (1, .getfield 9, [], 0, 0), (4, .sipush 197, [], 197, 0), (7, .iaload, [], 0, 0), (8, .bipush 15, [], 15, 0), (10, .iand, [], 0, 0), (11, .bipush 8, [], 8, 0), (13, .ishl, [], 0, 0), (14, .aload_n 0, [], 0, 0), (15, .getfield 9, [], 0, 0), (18, .sipush 196, [], 196, 0), (21, .iaload, [], 0, 0), (22, .ior, [], 0, 0), (23, .istore_n 1, [], 0, 0), (24, .iload_n 1, [], 0, 0), (25, .iconst 1, [], 1, 0), (26, .iadd, [], 0, 0), (27, .aload_n 0, [], 0, 0), (28, .getfield 9, [], 0, 0), (31, .sipush 192, [], 192, 0), (34, .iaload, [], 0, 0), (35, .iconst 2, [], 2, 0), (36, .iand, [], 0, 0), (37, .ifCond .eq 8, [(45, 0)], 0, 0), (40, .bipush 80, [], 80, 0), (42, .goto 6, [(48, 0)], 0, 0)], 45),
  (45, [(45, .sipush 160, [], 160, 0)], 48),
  (48, [(48, .imul, [], 0, 0), (49, .ireturn, [], 0, 0)], 50)]
def fdX4_frame : mFt := [(9, 7, 0, 0)]
def clX4_frame : mCt := []
def spX4_frame : mSp := mSpOf shC fdX4_frame clX4_frame bsX4_frame 1 (some .int)
abbrev rmX4_frame : Room := { frames := 0, cells := 0, slots := 0, locals := 0 }
abbrev wkX4_frame : List Jvm.Cond := .code yX4_frame cX4_frame 2 (some .int) :: wC
set_option maxRecDepth 100000 in
set_option maxHeartbeats 4000000 in
theorem metX4_frame (l : Launch) (D : va_G) (ad : Nat → Nat) (tc : Nat → ClassId) : mMet l D vwCl ad tc shC yX4_frame wkX4_frame rmX4_frame spX4_frame :=
  mMet_of (own := RX4) (ret := (some .int)) (Fd := fdX4_frame) (Cl := clX4_frame) (Ks := []) (Fi := [(9, 0)]) (Ci := []) (bs := bsX4_frame) rfl (by decide +kernel) rfl (by decide +kernel)
    (List.forall_mem_cons.mpr ⟨⟨RX4, TX4, 15, rfl, by decide, fun w h => mIn (inC_X4 w h), mIn (mAt (i := 58) (by decide +kernel)), fun h => absurd h (by decide)⟩, fun _ h => absurd h List.not_mem_nil⟩)
    (fun _ h => absurd h List.not_mem_nil)
    (fun _ h => absurd h List.not_mem_nil) rfl rfl (by decide +kernel) (by decide) (by decide)
-- FlashBoard$Line.cycle
def bsX4_cycle : List mBl := [(0, [(0, .aload_n 0, [], 0, 0), (1, .getfield 25, [], 0, 0), (4, .ifCond .le 10, [(14, 0)], 0, 0), (7, .aload_n 0, [], 0, 0), (8, .invokevirtual 50, [], 0, 0), (11, .goto 44, [(55, 0)], 0, 0)], 14),
  (14, [(14, .aload_n 0, [], 0, 0), (15, .getfield 21, [], 0, 1), (18, .ifCond .eq 37, [(55, 0)], 0, 0), (21, .aload_n 0, [], 0, 0), (22, .aload_n 0, [], 0, 0), (23, .getfield 41, [], 0, 2), (26, .putfield 53, [], 0, 3), (29, .aload_n 0, [], 0, 0), (30, .aload_n 0, [], 0, 0), (31, .invokevirtual 56, [], 0, 1), (34, .putfield 25, [], 0, 0), (37, .aload_n 0, [], 0, 0), (38, .iconst 0, [], 0, 0), (39, .putfield 21, [], 0, 1), (42, .aload_n 0, [], 0, 0), (43, .getfield 9, [], 0, 4), (46, .sipush 192, [], 192, 0), (49, .dup2, [], 0, 0), (50, .iaload, [], 0, 0), (51, .bipush 32, [], 32, 0), (53, .ior, [], 0, 0), (54, .iastore, [], 0, 0)], 55),
  (55, [(55, .aload_n 0, [], 0, 0), (56, .getfield 29, [], 0, 5), (59, .ifCond .le 10, [(69, 0)], 0, 0), (62, .aload_n 0, [], 0, 0), (63, .invokevirtual 60, [], 0, 2), (66, .goto 55, [(121, 0)], 0, 0)], 69),
  (69, [(69, .aload_n 0, [], 0, 0), (70, .getfield 35, [], 0, 6), (73, .ifCond .le 48, [(121, 0)], 0, 0), (76, .aload_n 0, [], 0, 0), (77, .aload_n 0, [], 0, 0), (78, .getfield 15, [], 0, 7), (81, .aload_n 0, [], 0, 0), (82, .getfield 38, [], 0, 8), (85, .iaload, [], 0, 0), (86, .putfield 63, [], 0, 9), (89, .aload_n 0, [], 0, 0), (90, .aload_n 0, [], 0, 0), (91, .invokevirtual 56, [], 0, 1), (94, .putfield 29, [], 0, 5), (97, .aload_n 0, [], 0, 0), (98, .aload_n 0, [], 0, 0), (99, .getfield 38, [], 0, 8), (102, .iconst 1, [], 1, 0), (103, .iadd, [], 0, 0), (104, .sipush 300, [], 300, 0), (107, .irem, [], 0, 0), (108, .putfield 38, [], 0, 8), (111, .aload_n 0, [], 0, 0), (112, .dup, [], 0, 0), (113, .getfield 35, [], 0, 6), (116, .iconst 1, [], 1, 0), (117, .isub, [], 0, 0), (118, .putfield 35, [], 0, 6)], 121),
  (121, [(121, .return_, [], 0, 0)], 122)]
def fdX4_cycle : mFt := [(25, 7, 9, 1), (21, 7, 7, 2), (41, 7, 6, 1), (53, 7, 8, 1), (9, 7, 0, 0), (29, 7, 11, 1), (35, 7, 3, 1), (15, 7, 1, 0), (38, 7, 2, 1), (63, 7, 10, 1)]
def clX4_cycle : mCt := [(50, 0, 0, 7, spX4_sendOn), (56, 0, 0, 7, spX4_frame), (60, 0, 0, 7, spX4_comeOn)]
def spX4_cycle : mSp := mSpOf shC fdX4_cycle clX4_cycle bsX4_cycle 1 none
abbrev rmX4_cycle : Room := { frames := 1, cells := 0, slots := 0, locals := 21 }
abbrev wkX4_cycle : List Jvm.Cond := .code yX4_cycle cX4_cycle 1 none :: wC
set_option maxRecDepth 100000 in
set_option maxHeartbeats 4000000 in
theorem metX4_cycle (l : Launch) (D : va_G) (ad : Nat → Nat) (tc : Nat → ClassId) : mMet l D vwCl ad tc shC yX4_cycle wkX4_cycle rmX4_cycle spX4_cycle :=
  mMet_of (own := RX4) (ret := none) (Fd := fdX4_cycle) (Cl := clX4_cycle) (Ks := []) (Fi := [(25, 0), (21, 0), (41, 0), (53, 0), (9, 0), (29, 0), (35, 0), (15, 0), (38, 0), (63, 0)]) (Ci := [(50, 0), (56, 0), (60, 0)]) (bs := bsX4_cycle) rfl (by decide +kernel) rfl (by decide +kernel)
    (List.forall_mem_cons.mpr ⟨⟨RX4, TX4, 15, rfl, by decide, fun w h => mIn (inC_X4 w h), mIn (mAt (i := 365) (by decide +kernel)), fun _ => ⟨tyX4, tyX4_ok, nmX4, rfl, by decide +kernel⟩⟩, List.forall_mem_cons.mpr ⟨⟨RX4, TX4, 15, rfl, by decide, fun w h => mIn (inC_X4 w h), mIn (mAt (i := 60) (by decide +kernel)), fun _ => ⟨tyX4, tyX4_ok, nmX4, rfl, by decide +kernel⟩⟩, List.forall_mem_cons.mpr ⟨⟨RX4, TX4, 15, rfl, by decide, fun w h => mIn (inC_X4 w h), mIn (mAt (i := 62) (by decide +kernel)), fun _ => ⟨tyX4, tyX4_ok, nmX4, rfl, by decide +kernel⟩⟩, List.forall_mem_cons.mpr ⟨⟨RX4, TX4, 15, rfl, by decide, fun w h => mIn (inC_X4 w h), mIn (mAt (i := 372) (by decide +kernel)), fun _ => ⟨tyX4, tyX4_ok, nmX4, rfl, by decide +kernel⟩⟩, List.forall_mem_cons.mpr ⟨⟨RX4, TX4, 15, rfl, by decide, fun w h => mIn (inC_X4 w h), mIn (mAt (i := 58) (by decide +kernel)), fun h => absurd h (by decide)⟩, List.forall_mem_cons.mpr ⟨⟨RX4, TX4, 15, rfl, by decide, fun w h => mIn (inC_X4 w h), mIn (mAt (i := 366) (by decide +kernel)), fun _ => ⟨tyX4, tyX4_ok, nmX4, rfl, by decide +kernel⟩⟩, List.forall_mem_cons.mpr ⟨⟨RX4, TX4, 15, rfl, by decide, fun w h => mIn (inC_X4 w h), mIn (mAt (i := 375) (by decide +kernel)), fun _ => ⟨tyX4, tyX4_ok, nmX4, rfl, by decide +kernel⟩⟩, List.forall_mem_cons.mpr ⟨⟨RX4, TX4, 15, rfl, by decide, fun w h => mIn (inC_X4 w h), mIn (mAt (i := 376) (by decide +kernel)), fun h => absurd h (by decide)⟩, List.forall_mem_cons.mpr ⟨⟨RX4, TX4, 15, rfl, by decide, fun w h => mIn (inC_X4 w h), mIn (mAt (i := 377) (by decide +kernel)), fun _ => ⟨tyX4, tyX4_ok, nmX4, rfl, by decide +kernel⟩⟩, List.forall_mem_cons.mpr ⟨⟨RX4, TX4, 15, rfl, by decide, fun w h => mIn (inC_X4 w h), mIn (mAt (i := 368) (by decide +kernel)), fun _ => ⟨tyX4, tyX4_ok, nmX4, rfl, by decide +kernel⟩⟩, fun _ h => absurd h List.not_mem_nil⟩⟩⟩⟩⟩⟩⟩⟩⟩⟩)
    (fun _ h => absurd h List.not_mem_nil)
    (List.forall_mem_cons.mpr ⟨Or.inl ⟨rfl, RX4, TX4, 15, yX4_sendOn, cX4_sendOn, 1, none, wkX4_sendOn, _, rmX4_sendOn, rfl, mGoodV goodC (mAt (i := 378) (by decide +kernel)) (mAt (i := 379) (by decide +kernel)) (mAt (i := 380) (by decide +kernel)) (mAt (i := 89) (by decide +kernel)) (mAt (i := 369) (by decide +kernel)), rfl, rfl, rfl, by decide +kernel, by decide, metX4_sendOn l D ad tc⟩, List.forall_mem_cons.mpr ⟨Or.inl ⟨rfl, RX4, TX4, 15, yX4_frame, cX4_frame, 2, (some .int), wkX4_frame, _, rmX4_frame, rfl, mGoodV goodC (mAt (i := 381) (by decide +kernel)) (mAt (i := 382) (by decide +kernel)) (mAt (i := 383) (by decide +kernel)) (mAt (i := 89) (by decide +kernel)) (mAt (i := 373) (by decide +kernel)), rfl, rfl, rfl, by decide +kernel, by decide, metX4_frame l D ad tc⟩, List.forall_mem_cons.mpr ⟨Or.inl ⟨rfl, RX4, TX4, 15, yX4_comeOn, cX4_comeOn, 1, none, wkX4_comeOn, _, rmX4_comeOn, rfl, mGoodV goodC (mAt (i := 384) (by decide +kernel)) (mAt (i := 385) (by decide +kernel)) (mAt (i := 386) (by decide +kernel)) (mAt (i := 89) (by decide +kernel)) (mAt (i := 367) (by decide +kernel)), rfl, rfl, rfl, by decide +kernel, by decide, metX4_comeOn l D ad tc⟩, fun _ h => absurd h List.not_mem_nil⟩⟩⟩) rfl rfl (by decide +kernel) (by decide) (by decide)
-- FlashBoard$Line.firstReceived
def bsX4_firstReceived : List mBl := [(0, [(0, .aload_n 0, [], 0, 0), (1, .getfield 32, [], 0, 0), (4, .ifCond .le 10, [(14, 0)], 0, 0), (7, .aload_n 0, [], 0, 0), (8, .getfield 44, [], 0, 1), (11, .goto 4, [(15, 0)], 0, 0)], 14),
  (14, [(14, .iconst 0, [], 0, 0)], 15),
  (15, [(15, .ireturn, [], 0, 0)], 16)]
def fdX4_firstReceived : mFt := [(32, 7, 14, 1), (44, 7, 12, 1)]
def clX4_firstReceived : mCt := []
def spX4_firstReceived : mSp := mSpOf shC fdX4_firstReceived clX4_firstReceived bsX4_firstReceived 1 (some .int)
abbrev rmX4_firstReceived : Room := { frames := 0, cells := 0, slots := 0, locals := 0 }
abbrev wkX4_firstReceived : List Jvm.Cond := .code yX4_firstReceived cX4_firstReceived 1 (some .int) :: wC
set_option maxRecDepth 100000 in
set_option maxHeartbeats 4000000 in
theorem metX4_firstReceived (l : Launch) (D : va_G) (ad : Nat → Nat) (tc : Nat → ClassId) : mMet l D vwCl ad tc shC yX4_firstReceived wkX4_firstReceived rmX4_firstReceived spX4_firstReceived :=
  mMet_of (own := RX4) (ret := (some .int)) (Fd := fdX4_firstReceived) (Cl := clX4_firstReceived) (Ks := []) (Fi := [(32, 0), (44, 0)]) (Ci := []) (bs := bsX4_firstReceived) rfl (by decide +kernel) rfl (by decide +kernel)
    (List.forall_mem_cons.mpr ⟨⟨RX4, TX4, 15, rfl, by decide, fun w h => mIn (inC_X4 w h), mIn (mAt (i := 99) (by decide +kernel)), fun _ => ⟨tyX4, tyX4_ok, nmX4, rfl, by decide +kernel⟩⟩, List.forall_mem_cons.mpr ⟨⟨RX4, TX4, 15, rfl, by decide, fun w h => mIn (inC_X4 w h), mIn (mAt (i := 100) (by decide +kernel)), fun _ => ⟨tyX4, tyX4_ok, nmX4, rfl, by decide +kernel⟩⟩, fun _ h => absurd h List.not_mem_nil⟩⟩)
    (fun _ h => absurd h List.not_mem_nil)
    (fun _ h => absurd h List.not_mem_nil) rfl rfl (by decide +kernel) (by decide) (by decide)
-- FlashBoard$Line.queue
def bsX4_queue : List mBl := [(0, [(0, .aload_n 0, [], 0, 0), (1, .getfield 35, [], 0, 0), (4, .sipush 300, [], 300, 0), (7, .if_icmp .lt 5, [(12, 0)], 0, 0), (10, .iconst (-1), [], (-1), 0), (11, .ireturn, [], 0, 0)], 12),
  (12, [(12, .aload_n 0, [], 0, 0), (13, .getfield 15, [], 0, 1), (16, .aload_n 0, [], 0, 0), (17, .getfield 38, [], 0, 2), (20, .aload_n 0, [], 0, 0), (21, .getfield 35, [], 0, 0), (24, .iadd, [], 0, 0), (25, .sipush 300, [], 300, 0), (28, .irem, [], 0, 0), (29, .iload_n 1, [], 0, 0), (30, .iastore, [], 0, 0), (31, .aload_n 0, [], 0, 0), (32, .dup, [], 0, 0), (33, .getfield 35, [], 0, 0), (36, .iconst 1, [], 1, 0), (37, .iadd, [], 0, 0), (38, .putfield 35, [], 0, 0), (41, .aload_n 0, [], 0, 0), (42, .getfield 35, [], 0, 0), (45, .ireturn, [], 0, 0)], 46)]
def fdX4_queue : mFt := [(35, 7, 3, 1), (15, 7, 1, 0), (38, 7, 2, 1)]
def clX4_queue : mCt := []
def spX4_queue : mSp := mSpOf shC fdX4_queue clX4_queue bsX4_queue 2 (some .int)
abbrev rmX4_queue : Room := { frames := 0, cells := 0, slots := 0, locals := 0 }
abbrev wkX4_queue : List Jvm.Cond := .code yX4_queue cX4_queue 2 (some .int) :: wC
set_option maxRecDepth 100000 in
set_option maxHeartbeats 4000000 in
theorem metX4_queue (l : Launch) (D : va_G) (ad : Nat → Nat) (tc : Nat → ClassId) : mMet l D vwCl ad tc shC yX4_queue wkX4_queue rmX4_queue spX4_queue :=
  mMet_of (own := RX4) (ret := (some .int)) (Fd := fdX4_queue) (Cl := clX4_queue) (Ks := []) (Fi := [(35, 0), (15, 0), (38, 0)]) (Ci := []) (bs := bsX4_queue) rfl (by decide +kernel) rfl (by decide +kernel)
    (List.forall_mem_cons.mpr ⟨⟨RX4, TX4, 15, rfl, by decide, fun w h => mIn (inC_X4 w h), mIn (mAt (i := 375) (by decide +kernel)), fun _ => ⟨tyX4, tyX4_ok, nmX4, rfl, by decide +kernel⟩⟩, List.forall_mem_cons.mpr ⟨⟨RX4, TX4, 15, rfl, by decide, fun w h => mIn (inC_X4 w h), mIn (mAt (i := 376) (by decide +kernel)), fun h => absurd h (by decide)⟩, List.forall_mem_cons.mpr ⟨⟨RX4, TX4, 15, rfl, by decide, fun w h => mIn (inC_X4 w h), mIn (mAt (i := 377) (by decide +kernel)), fun _ => ⟨tyX4, tyX4_ok, nmX4, rfl, by decide +kernel⟩⟩, fun _ h => absurd h List.not_mem_nil⟩⟩⟩)
    (fun _ h => absurd h List.not_mem_nil)
    (fun _ h => absurd h List.not_mem_nil) rfl rfl (by decide +kernel) (by decide) (by decide)
-- java/util/Arrays.fill
def bsJ7_fill_53178 : List mBl := [(0, [(0, .iconst 0, [], 0, 0), (1, .istore_n 2, [], 0, 0), (2, .aload_n 0, [], 0, 0), (3, .arraylength, [], 0, 0), (4, .istore_n 3, [], 0, 0)], 5),
  (5, [(5, .iload_n 2, [], 0, 0), (6, .iload_n 3, [], 0, 0), (7, .if_icmp .ge 13, [(20, 0)], 0, 0), (10, .aload_n 0, [], 0, 0), (11, .iload_n 2, [], 0, 0), (12, .iload_n 1, [], 0, 0), (13, .iastore, [], 0, 0), (14, .iinc 2 1, [], 1, 0), (17, .goto (-12), [(5, 0)], 0, 0)], 20),
  (20, [(20, .return_, [], 0, 0)], 21)]
def fdJ7_fill_53178 : mFt := []
def clJ7_fill_53178 : mCt := []
def spJ7_fill_53178 : mSp := mSpOf shC fdJ7_fill_53178 clJ7_fill_53178 bsJ7_fill_53178 2 none
abbrev rmJ7_fill_53178 : Room := { frames := 0, cells := 0, slots := 0, locals := 0 }
abbrev wkJ7_fill_53178 : List Jvm.Cond := .code yJ7_fill_53178 cJ7_fill_53178 4 none :: wC
set_option maxRecDepth 100000 in
set_option maxHeartbeats 4000000 in
theorem metJ7_fill_53178 (l : Launch) (D : va_G) (ad : Nat → Nat) (tc : Nat → ClassId) : mMet l D vwCl ad tc shC yJ7_fill_53178 wkJ7_fill_53178 rmJ7_fill_53178 spJ7_fill_53178 :=
  mMet_of (own := RJ7) (ret := none) (Fd := fdJ7_fill_53178) (Cl := clJ7_fill_53178) (Ks := []) (Fi := []) (Ci := []) (bs := bsJ7_fill_53178) rfl (by decide +kernel) rfl (by decide +kernel)
    (fun _ h => absurd h List.not_mem_nil)
    (fun _ h => absurd h List.not_mem_nil)
    (fun _ h => absurd h List.not_mem_nil) rfl rfl (by decide +kernel) (by decide) (by decide)
-- FlashBoard$Watchdog.clear
def bsX7_clear : List mBl := [(0, [(0, .aload_n 0, [], 0, 0), (1, .iconst 0, [], 0, 0), (2, .putfield 15, [], 0, 0), (5, .aload_n 0, [], 0, 0), (6, .iconst 0, [], 0, 0), (7, .putfield 19, [], 0, 1), (10, .aload_n 0, [], 0, 0), (11, .getfield 9, [], 0, 2), (14, .bipush 96, [], 96, 0), (16, .aload_n 0, [], 0, 0), (17, .getfield 9, [], 0, 2), (20, .bipush 84, [], 84, 0), (22, .iaload, [], 0, 0), (23, .bipush 8, [], 8, 0), (25, .iand, [], 0, 0), (26, .iastore, [], 0, 0), (27, .return_, [], 0, 0)], 28)]
def fdX7_clear : mFt := [(15, 10, 1, 1), (19, 10, 2, 1), (9, 10, 0, 0)]
def clX7_clear : mCt := []
def spX7_clear : mSp := mSpOf shC fdX7_clear clX7_clear bsX7_clear 1 none
abbrev rmX7_clear : Room := { frames := 0, cells := 0, slots := 0, locals := 0 }
abbrev wkX7_clear : List Jvm.Cond := .code yX7_clear cX7_clear 1 none :: wC
set_option maxRecDepth 100000 in
set_option maxHeartbeats 4000000 in
theorem metX7_clear (l : Launch) (D : va_G) (ad : Nat → Nat) (tc : Nat → ClassId) : mMet l D vwCl ad tc shC yX7_clear wkX7_clear rmX7_clear spX7_clear :=
  mMet_of (own := RX7) (ret := none) (Fd := fdX7_clear) (Cl := clX7_clear) (Ks := []) (Fi := [(15, 0), (19, 0), (9, 0)]) (Ci := []) (bs := bsX7_clear) rfl (by decide +kernel) rfl (by decide +kernel)
    (List.forall_mem_cons.mpr ⟨⟨RX7, TX7, 3, rfl, by decide, fun w h => mIn (inC_X7 w h), mIn (mAt (i := 391) (by decide +kernel)), fun _ => ⟨tyX7, tyX7_ok, nmX7, rfl, by decide +kernel⟩⟩, List.forall_mem_cons.mpr ⟨⟨RX7, TX7, 3, rfl, by decide, fun w h => mIn (inC_X7 w h), mIn (mAt (i := 56) (by decide +kernel)), fun _ => ⟨tyX7, tyX7_ok, nmX7, rfl, by decide +kernel⟩⟩, List.forall_mem_cons.mpr ⟨⟨RX7, TX7, 3, rfl, by decide, fun w h => mIn (inC_X7 w h), mIn (mAt (i := 55) (by decide +kernel)), fun h => absurd h (by decide)⟩, fun _ h => absurd h List.not_mem_nil⟩⟩⟩)
    (fun _ h => absurd h List.not_mem_nil)
    (fun _ h => absurd h List.not_mem_nil) rfl rfl (by decide +kernel) (by decide) (by decide)
-- FlashBoard$Memory.clear
def bsX5_clear : List mBl := [(0, [(0, .iload_n 1, [], 0, 0), (1, .iconst 1, [], 1, 0), (2, .if_icmp .ne 7, [(9, 0)], 0, 0), (5, .iload_n 1, [], 0, 0), (6, .goto 12, [(18, 0)], 0, 0)], 9),
  (9, [(9, .aload_n 0, [], 0, 0), (10, .getfield 9, [], 0, 0), (13, .bipush 84, [], 84, 0), (15, .iaload, [], 0, 0), (16, .iload_n 1, [], 0, 0), (17, .ior, [], 0, 0)], 18),
  (18, [(18, .istore_n 2, [], 0, 0), (19, .iload_n 1, [], 0, 0), (20, .iconst 1, [], 1, 0), (21, .if_icmp .ne 14, [(35, 0)], 0, 0), (24, .aload_n 0, [], 0, 0), (25, .getfield 9, [], 0, 0), (28, .iconst 0, [], 0, 0), (29, .invokestatic 52, [], 0, 0), (32, .goto 16, [(48, 0)], 0, 0)], 35),
  (35, [(35, .aload_n 0, [], 0, 0), (36, .getfield 9, [], 0, 0), (39, .bipush 32, [], 32, 0), (41, .sipush 256, [], 256, 0), (44, .iconst 0, [], 0, 0), (45, .invokestatic 58, [], 0, 1)], 48),
  (48, [(48, .aload_n 0, [], 0, 0), (49, .getfield 9, [], 0, 0), (52, .bipush 84, [], 84, 0), (54, .iload_n 2, [], 0, 0), (55, .iastore, [], 0, 0), (56, .aload_n 0, [], 0, 0), (57, .iconst 0, [], 0, 0), (58, .putfield 61, [], 0, 1), (61, .aload_n 0, [], 0, 0), (62, .getfield 27, [], 0, 2), (65, .iconst 0, [], 0, 0), (66, .putfield 65, [], 0, 3), (69, .aload_n 0, [], 0, 0), (70, .getfield 20, [], 0, 4), (73, .invokevirtual 68, [], 0, 2), (76, .aload_n 0, [], 0, 0), (77, .getfield 34, [], 0, 5), (80, .invokevirtual 71, [], 0, 3), (83, .aload_n 0, [], 0, 0), (84, .getfield 41, [], 0, 6), (87, .invokevirtual 72, [], 0, 4), (90, .aload_n 0, [], 0, 0), (91, .getfield 48, [], 0, 7), (94, .invokevirtual 73, [], 0, 5), (97, .return_, [], 0, 0)], 98)]
def fdX5_clear : mFt := [(9, 8, 0, 0), (61, 8, 7, 1), (27, 8, 2, 0), (65, 9, 1, 1), (20, 8, 1, 0), (34, 8, 3, 0), (41, 8, 4, 0), (48, 8, 5, 0)]
def clX5_clear : mCt := [(52, 1, 2, 0, spJ7_fill_53178), (58, 1, 4, 0, spJ7_fill_fda19), (68, 0, 0, 6, spX3_clear), (71, 0, 0, 7, spX4_clear), (72, 0, 0, 5, spX2_clear), (73, 0, 0, 10, spX7_clear)]
def spX5_clear : mSp := mSpOf shC fdX5_clear clX5_clear bsX5_clear 2 none
abbrev rmX5_clear : Room := { frames := 2, cells := 0, slots := 0, locals := 46 }
abbrev wkX5_clear : List Jvm.Cond := .code yX5_clear cX5_clear 3 none :: wC
set_option maxRecDepth 100000 in
set_option maxHeartbeats 4000000 in
theorem metX5_clear (l : Launch) (D : va_G) (ad : Nat → Nat) (tc : Nat → ClassId) : mMet l D vwCl ad tc shC yX5_clear wkX5_clear rmX5_clear spX5_clear :=
  mMet_of (own := RX5) (ret := none) (Fd := fdX5_clear) (Cl := clX5_clear) (Ks := []) (Fi := [(9, 0), (61, 0), (27, 0), (65, 0), (20, 0), (34, 0), (41, 0), (48, 0)]) (Ci := [(52, 1), (58, 1), (68, 0), (71, 0), (72, 0), (73, 0)]) (bs := bsX5_clear) rfl (by decide +kernel) rfl (by decide +kernel)
    (List.forall_mem_cons.mpr ⟨⟨RX5, TX5, 9, rfl, by decide, fun w h => mIn (inC_X5 w h), mIn (mAt (i := 48) (by decide +kernel)), fun h => absurd h (by decide)⟩, List.forall_mem_cons.mpr ⟨⟨RX5, TX5, 9, rfl, by decide, fun w h => mIn (inC_X5 w h), mIn (mAt (i := 49) (by decide +kernel)), fun _ => ⟨tyX5, tyX5_ok, nmX5, rfl, by decide +kernel⟩⟩, List.forall_mem_cons.mpr ⟨⟨RX5, TX5, 9, rfl, by decide, fun w h => mIn (inC_X5 w h), mIn (mAt (i := 393) (by decide +kernel)), fun h => absurd h (by decide)⟩, List.forall_mem_cons.mpr ⟨⟨RX6, TX6, 2, rfl, by decide, fun w h => mIn (inC_X6 w h), mIn (mAt (i := 394) (by decide +kernel)), fun _ => ⟨tyX6, tyX6_ok, nmX6, rfl, by decide +kernel⟩⟩, List.forall_mem_cons.mpr ⟨⟨RX5, TX5, 9, rfl, by decide, fun w h => mIn (inC_X5 w h), mIn (mAt (i := 66) (by decide +kernel)), fun h => absurd h (by decide)⟩, List.forall_mem_cons.mpr ⟨⟨RX5, TX5, 9, rfl, by decide, fun w h => mIn (inC_X5 w h), mIn (mAt (i := 68) (by decide +kernel)), fun h => absurd h (by decide)⟩, List.forall_mem_cons.mpr ⟨⟨RX5, TX5, 9, rfl, by decide, fun w h => mIn (inC_X5 w h), mIn (mAt (i := 65) (by decide +kernel)), fun h => absurd h (by decide)⟩, List.forall_mem_cons.mpr ⟨⟨RX5, TX5, 9, rfl, by decide, fun w h => mIn (inC_X5 w h), mIn (mAt (i := 67) (by decide +kernel)), fun h => absurd h (by decide)⟩, fun _ h => absurd h List.not_mem_nil⟩⟩⟩⟩⟩⟩⟩⟩)
    (fun _ h => absurd h List.not_mem_nil)
    (List.forall_mem_cons.mpr ⟨Or.inr ⟨rfl, yJ7_fill_53178, cJ7_fill_53178, 4, none, wkJ7_fill_53178, _, rmJ7_fill_53178, mGoodS goodC (mAt (i := 395) (by decide +kernel)) (mAt (i := 396) (by decide +kernel)) (mAt (i := 181) (by decide +kernel)) (mAt (i := 389) (by decide +kernel)), rfl, rfl, rfl, by decide +kernel, by decide, metJ7_fill_53178 l D ad tc⟩, List.forall_mem_cons.mpr ⟨Or.inr ⟨rfl, yJ7_fill_fda19, cJ7_fill_fda19, 5, none, wkJ7_fill_fda19, _, rmJ7_fill_fda19, mGoodS goodC (mAt (i := 397) (by decide +kernel)) (mAt (i := 192) (by decide +kernel)) (mAt (i := 181) (by decide +kernel)) (mAt (i := 179) (by decide +kernel)), rfl, rfl, rfl, by decide +kernel, by decide, metJ7_fill_fda19 l D ad tc⟩, List.forall_mem_cons.mpr ⟨Or.inl ⟨rfl, RX3, TX3, 8, yX3_clear, cX3_clear, 1, none, wkX3_clear, _, rmX3_clear, rfl, mGoodV goodC (mAt (i := 398) (by decide +kernel)) (mAt (i := 399) (by decide +kernel)) (mAt (i := 400) (by decide +kernel)) (mAt (i := 81) (by decide +kernel)) (mAt (i := 362) (by decide +kernel)), rfl, rfl, rfl, by decide +kernel, by decide, metX3_clear l D ad tc⟩, List.forall_mem_cons.mpr ⟨Or.inl ⟨rfl, RX4, TX4, 15, yX4_clear, cX4_clear, 1, none, wkX4_clear, _, rmX4_clear, rfl, mGoodV goodC (mAt (i := 401) (by decide +kernel)) (mAt (i := 402) (by decide +kernel)) (mAt (i := 403) (by decide +kernel)) (mAt (i := 89) (by decide +kernel)) (mAt (i := 364) (by decide +kernel)), rfl, rfl, rfl, by decide +kernel, by decide, metX4_clear l D ad tc⟩, List.forall_mem_cons.mpr ⟨Or.inl ⟨rfl, RX2, TX2, 4, yX2_clear, cX2_clear, 1, none, wkX2_clear, _, rmX2_clear, rfl, mGoodV goodC (mAt (i := 404) (by decide +kernel)) (mAt (i := 405) (by decide +kernel)) (mAt (i := 406) (by decide +kernel)) (mAt (i := 70) (by decide +kernel)) (mAt (i := 359) (by decide +kernel)), rfl, rfl, rfl, by decide +kernel, by decide, metX2_clear l D ad tc⟩, List.forall_mem_cons.mpr ⟨Or.inl ⟨rfl, RX7, TX7, 3, yX7_clear, cX7_clear, 1, none, wkX7_clear, _, rmX7_clear, rfl, mGoodV goodC (mAt (i := 407) (by decide +kernel)) (mAt (i := 408) (by decide +kernel)) (mAt (i := 409) (by decide +kernel)) (mAt (i := 85) (by decide +kernel)) (mAt (i := 390) (by decide +kernel)), rfl, rfl, rfl, by decide +kernel, by decide, metX7_clear l D ad tc⟩, fun _ h => absurd h List.not_mem_nil⟩⟩⟩⟩⟩⟩) rfl rfl (by decide +kernel) (by decide) (by decide)
-- FlashBoard$Timer.ticks
def bsX6_ticks : List mBl := [(0, [(0, .iload_n 1, [], 0, 0), (1, .tableswitch 99 1 5 #[35, 37, 53, 69, 86], [(36, 1), (38, 2), (54, 3), (70, 4), (87, 5), (100, 0)], 0, 35)], 36),
  (36, [(36, .iconst 1, [], 1, 0), (37, .ireturn, [], 0, 0)], 38),
  (38, [(38, .aload_n 0, [], 0, 0), (39, .getfield 15, [], 0, 0), (42, .bipush 7, [], 7, 0), (44, .iand, [], 0, 0), (45, .ifCond .ne 7, [(52, 0)], 0, 0), (48, .iconst 1, [], 1, 0), (49, .goto 4, [(53, 0)], 0, 0)], 52),
  (52, [(52, .iconst 0, [], 0, 0)], 53),
  (53, [(53, .ireturn, [], 0, 0)], 54),
  (54, [(54, .aload_n 0, [], 0, 0), (55, .getfield 15, [], 0, 0), (58, .bipush 63, [], 63, 0), (60, .iand, [], 0, 0), (61, .ifCond .ne 7, [(68, 0)], 0, 0), (64, .iconst 1, [], 1, 0), (65, .goto 4, [(69, 0)], 0, 0)], 68),
  (68, [(68, .iconst 0, [], 0, 0)], 69),
  (69, [(69, .ireturn, [], 0, 0)], 70),
  (70, [(70, .aload_n 0, [], 0, 0), (71, .getfield 15, [], 0, 0), (74, .sipush 255, [], 255, 0), (77, .iand, [], 0, 0), (78, .ifCond .ne 7, [(85, 0)], 0, 0), (81, .iconst 1, [], 1, 0), (82, .goto 4, [(86, 0)], 0, 0)], 85),
  (85, [(85, .iconst 0, [], 0, 0)], 86),
  (86, [(86, .ireturn, [], 0, 0)], 87),
  (87, [(87, .aload_n 0, [], 0, 0), (88, .getfield 15, [], 0, 0), (91, .ifCond .ne 7, [(98, 0)], 0, 0), (94, .iconst 1, [], 1, 0), (95, .goto 4, [(99, 0)], 0, 0)], 98),
  (98, [(98, .iconst 0, [], 0, 0)], 99),
  (99, [(99, .ireturn, [], 0, 0)], 100),
  (100, [(100, .iconst 0, [], 0, 0), (101, .ireturn, [], 0, 0)], 102)]
def fdX6_ticks : mFt := [(15, 9, 1, 1)]
def clX6_ticks : mCt := []
def spX6_ticks : mSp := mSpOf shC fdX6_ticks clX6_ticks bsX6_ticks 2 (some .boolean)
abbrev rmX6_ticks : Room := { frames := 0, cells := 0, slots := 0, locals := 0 }
abbrev wkX6_ticks : List Jvm.Cond := .code yX6_ticks cX6_ticks 2 (some .boolean) :: wC
set_option maxRecDepth 100000 in
set_option maxHeartbeats 4000000 in
theorem metX6_ticks (l : Launch) (D : va_G) (ad : Nat → Nat) (tc : Nat → ClassId) : mMet l D vwCl ad tc shC yX6_ticks wkX6_ticks rmX6_ticks spX6_ticks :=
  mMet_of (own := RX6) (ret := (some .boolean)) (Fd := fdX6_ticks) (Cl := clX6_ticks) (Ks := []) (Fi := [(15, 0)]) (Ci := []) (bs := bsX6_ticks) rfl (by decide +kernel) rfl (by decide +kernel)
    (List.forall_mem_cons.mpr ⟨⟨RX6, TX6, 2, rfl, by decide, fun w h => mIn (inC_X6 w h), mIn (mAt (i := 411) (by decide +kernel)), fun _ => ⟨tyX6, tyX6_ok, nmX6, rfl, by decide +kernel⟩⟩, fun _ h => absurd h List.not_mem_nil⟩)
    (fun _ h => absurd h List.not_mem_nil)
    (fun _ h => absurd h List.not_mem_nil) rfl rfl (by decide +kernel) (by decide) (by decide)
-- FlashBoard$Timer.tick
def bsX6_tick : List mBl := [(0, [(0, .aload_n 0, [], 0, 0), (1, .getfield 9, [], 0, 0), (4, .bipush 70, [], 70, 0), (6, .iaload, [], 0, 0), (7, .istore_n 1, [], 0, 0), (8, .aload_n 0, [], 0, 0), (9, .getfield 9, [], 0, 0), (12, .bipush 68, [], 68, 0), (14, .iaload, [], 0, 0), (15, .iconst 2, [], 2, 0), (16, .iand, [], 0, 0), (17, .ifCond .eq 19, [(36, 0)], 0, 0), (20, .iload_n 1, [], 0, 0), (21, .aload_n 0, [], 0, 0), (22, .getfield 9, [], 0, 0), (25, .bipush 71, [], 71, 0), (27, .iaload, [], 0, 0), (28, .if_icmp .ne 8, [(36, 0)], 0, 0), (31, .iconst 0, [], 0, 0), (32, .istore_n 1, [], 0, 0), (33, .goto 26, [(59, 0)], 0, 0)], 36),
  (36, [(36, .iload_n 1, [], 0, 0), (37, .iconst 1, [], 1, 0), (38, .iadd, [], 0, 0), (39, .sipush 255, [], 255, 0), (42, .iand, [], 0, 0), (43, .istore_n 1, [], 0, 0), (44, .iload_n 1, [], 0, 0), (45, .ifCond .ne 14, [(59, 0)], 0, 0), (48, .aload_n 0, [], 0, 0), (49, .getfield 9, [], 0, 0), (52, .bipush 53, [], 53, 0), (54, .dup2, [], 0, 0), (55, .iaload, [], 0, 0), (56, .iconst 1, [], 1, 0), (57, .ior, [], 0, 0), (58, .iastore, [], 0, 0)], 59),
  (59, [(59, .aload_n 0, [], 0, 0), (60, .getfield 9, [], 0, 0), (63, .bipush 70, [], 70, 0), (65, .iload_n 1, [], 0, 0), (66, .iastore, [], 0, 0), (67, .iload_n 1, [], 0, 0), (68, .aload_n 0, [], 0, 0), (69, .getfield 9, [], 0, 0), (72, .bipush 71, [], 71, 0), (74, .iaload, [], 0, 0), (75, .if_icmp .ne 14, [(89, 0)], 0, 0), (78, .aload_n 0, [], 0, 0), (79, .getfield 9, [], 0, 0), (82, .bipush 53, [], 53, 0), (84, .dup2, [], 0, 0), (85, .iaload, [], 0, 0), (86, .iconst 2, [], 2, 0), (87, .ior, [], 0, 0), (88, .iastore, [], 0, 0)], 89),
  (89, [(89, .return_, [], 0, 0)], 90)]
def fdX6_tick : mFt := [(9, 9, 0, 0)]
def clX6_tick : mCt := []
def spX6_tick : mSp := mSpOf shC fdX6_tick clX6_tick bsX6_tick 1 none
abbrev rmX6_tick : Room := { frames := 0, cells := 0, slots := 0, locals := 0 }
abbrev wkX6_tick : List Jvm.Cond := .code yX6_tick cX6_tick 2 none :: wC
set_option maxRecDepth 100000 in
set_option maxHeartbeats 4000000 in
theorem metX6_tick (l : Launch) (D : va_G) (ad : Nat → Nat) (tc : Nat → ClassId) : mMet l D vwCl ad tc shC yX6_tick wkX6_tick rmX6_tick spX6_tick :=
  mMet_of (own := RX6) (ret := none) (Fd := fdX6_tick) (Cl := clX6_tick) (Ks := []) (Fi := [(9, 0)]) (Ci := []) (bs := bsX6_tick) rfl (by decide +kernel) rfl (by decide +kernel)
    (List.forall_mem_cons.mpr ⟨⟨RX6, TX6, 2, rfl, by decide, fun w h => mIn (inC_X6 w h), mIn (mAt (i := 413) (by decide +kernel)), fun h => absurd h (by decide)⟩, fun _ h => absurd h List.not_mem_nil⟩)
    (fun _ h => absurd h List.not_mem_nil)
    (fun _ h => absurd h List.not_mem_nil) rfl rfl (by decide +kernel) (by decide) (by decide)
-- FlashBoard$Timer.cycle
def bsX6_cycle : List mBl := [(0, [(0, .aload_n 0, [], 0, 0), (1, .aload_n 0, [], 0, 0), (2, .getfield 15, [], 0, 0), (5, .iconst 1, [], 1, 0), (6, .iadd, [], 0, 0), (7, .sipush 1023, [], 1023, 0), (10, .iand, [], 0, 0), (11, .putfield 15, [], 0, 0), (14, .aload_n 0, [], 0, 0), (15, .getfield 9, [], 0, 1), (18, .bipush 69, [], 69, 0), (20, .iaload, [], 0, 0), (21, .bipush 7, [], 7, 0), (23, .iand, [], 0, 0), (24, .istore_n 1, [], 0, 0), (25, .iload_n 1, [], 0, 0), (26, .ifCond .eq 15, [(41, 0)], 0, 0), (29, .aload_n 0, [], 0, 0), (30, .iload_n 1, [], 0, 0), (31, .invokevirtual 19, [], 0, 0), (34, .ifCond .eq 7, [(41, 0)], 0, 0), (37, .aload_n 0, [], 0, 0), (38, .invokevirtual 23, [], 0, 1)], 41),
  (41, [(41, .return_, [], 0, 0)], 42)]
def fdX6_cycle : mFt := [(15, 9, 1, 1), (9, 9, 0, 0)]
def clX6_cycle : mCt := [(19, 0, 1, 9, spX6_ticks), (23, 0, 0, 9, spX6_tick)]
def spX6_cycle : mSp := mSpOf shC fdX6_cycle clX6_cycle bsX6_cycle 1 none
abbrev rmX6_cycle : Room := { frames := 1, cells := 0, slots := 0, locals := 21 }
abbrev wkX6_cycle : List Jvm.Cond := .code yX6_cycle cX6_cycle 2 none :: wC
set_option maxRecDepth 100000 in
set_option maxHeartbeats 4000000 in
theorem metX6_cycle (l : Launch) (D : va_G) (ad : Nat → Nat) (tc : Nat → ClassId) : mMet l D vwCl ad tc shC yX6_cycle wkX6_cycle rmX6_cycle spX6_cycle :=
  mMet_of (own := RX6) (ret := none) (Fd := fdX6_cycle) (Cl := clX6_cycle) (Ks := []) (Fi := [(15, 0), (9, 0)]) (Ci := [(19, 0), (23, 0)]) (bs := bsX6_cycle) rfl (by decide +kernel) rfl (by decide +kernel)
    (List.forall_mem_cons.mpr ⟨⟨RX6, TX6, 2, rfl, by decide, fun w h => mIn (inC_X6 w h), mIn (mAt (i := 411) (by decide +kernel)), fun _ => ⟨tyX6, tyX6_ok, nmX6, rfl, by decide +kernel⟩⟩, List.forall_mem_cons.mpr ⟨⟨RX6, TX6, 2, rfl, by decide, fun w h => mIn (inC_X6 w h), mIn (mAt (i := 413) (by decide +kernel)), fun h => absurd h (by decide)⟩, fun _ h => absurd h List.not_mem_nil⟩⟩)
    (fun _ h => absurd h List.not_mem_nil)
    (List.forall_mem_cons.mpr ⟨Or.inl ⟨rfl, RX6, TX6, 2, yX6_ticks, cX6_ticks, 2, (some .boolean), wkX6_ticks, _, rmX6_ticks, rfl, mGoodV goodC (mAt (i := 415) (by decide +kernel)) (mAt (i := 417) (by decide +kernel)) (mAt (i := 418) (by decide +kernel)) (mAt (i := 416) (by decide +kernel)) (mAt (i := 410) (by decide +kernel)), rfl, rfl, rfl, by decide +kernel, by decide, metX6_ticks l D ad tc⟩, List.forall_mem_cons.mpr ⟨Or.inl ⟨rfl, RX6, TX6, 2, yX6_tick, cX6_tick, 2, none, wkX6_tick, _, rmX6_tick, rfl, mGoodV goodC (mAt (i := 419) (by decide +kernel)) (mAt (i := 420) (by decide +kernel)) (mAt (i := 421) (by decide +kernel)) (mAt (i := 416) (by decide +kernel)) (mAt (i := 412) (by decide +kernel)), rfl, rfl, rfl, by decide +kernel, by decide, metX6_tick l D ad tc⟩, fun _ h => absurd h List.not_mem_nil⟩⟩) rfl rfl (by decide +kernel) (by decide) (by decide)
-- FlashBoard$Watchdog.limit
def bsX7_limit : List mBl := [(0, [(0, .iload_n 0, [], 0, 0), (1, .iconst 2, [], 2, 0), (2, .ishr, [], 0, 0), (3, .bipush 8, [], 8, 0), (5, .iand, [], 0, 0), (6, .iload_n 0, [], 0, 0), (7, .bipush 7, [], 7, 0), (9, .iand, [], 0, 0), (10, .ior, [], 0, 0), (11, .istore_n 1, [], 0, 0), (12, .sipush 4096, [], 4096, 0), (15, .iload_n 1, [], 0, 0), (16, .bipush 11, [], 11, 0), (18, .if_icmp .ge 7, [(25, 0)], 0, 0), (21, .iload_n 1, [], 0, 0), (22, .goto 5, [(27, 0)], 0, 0)], 25),
  (25, [(25, .bipush 11, [], 11, 0)], 27),
  (27, [(27, .ishl, [], 0, 0), (28, .ireturn, [], 0, 0)], 29)]
def fdX7_limit : mFt := []
def clX7_limit : mCt := []
def spX7_limit : mSp := mSpOf shC fdX7_limit clX7_limit bsX7_limit 1 (some .int)
abbrev rmX7_limit : Room := { frames := 0, cells := 0, slots := 0, locals := 0 }
abbrev wkX7_limit : List Jvm.Cond := .code yX7_limit cX7_limit 2 (some .int) :: wC
set_option maxRecDepth 100000 in
set_option maxHeartbeats 4000000 in
theorem metX7_limit (l : Launch) (D : va_G) (ad : Nat → Nat) (tc : Nat → ClassId) : mMet l D vwCl ad tc shC yX7_limit wkX7_limit rmX7_limit spX7_limit :=
  mMet_of (own := RX7) (ret := (some .int)) (Fd := fdX7_limit) (Cl := clX7_limit) (Ks := []) (Fi := []) (Ci := []) (bs := bsX7_limit) rfl (by decide +kernel) rfl (by decide +kernel)
    (fun _ h => absurd h List.not_mem_nil)
    (fun _ h => absurd h List.not_mem_nil)
    (fun _ h => absurd h List.not_mem_nil) rfl rfl (by decide +kernel) (by decide) (by decide)
-- FlashBoard$Watchdog.cycle
def bsX7_cycle : List mBl := [(0, [(0, .aload_n 0, [], 0, 0), (1, .getfield 19, [], 0, 0), (4, .ifCond .le 32, [(36, 0)], 0, 0), (7, .aload_n 0, [], 0, 0), (8, .dup, [], 0, 0), (9, .getfield 19, [], 0, 0), (12, .iconst 1, [], 1, 0), (13, .isub, [], 0, 0), (14, .putfield 19, [], 0, 0), (17, .aload_n 0, [], 0, 0), (18, .getfield 19, [], 0, 0), (21, .ifCond .ne 15, [(36, 0)], 0, 0), (24, .aload_n 0, [], 0, 0), (25, .getfield 9, [], 0, 1), (28, .bipush 96, [], 96, 0), (30, .dup2, [], 0, 0), (31, .iaload, [], 0, 0), (32, .bipush (-17), [], (-17), 0), (34, .iand, [], 0, 0), (35, .iastore, [], 0, 0)], 36),
  (36, [(36, .aload_n 0, [], 0, 0), (37, .getfield 9, [], 0, 1), (40, .bipush 96, [], 96, 0), (42, .iaload, [], 0, 0), (43, .istore_n 1, [], 0, 0), (44, .iload_n 1, [], 0, 0), (45, .bipush 72, [], 72, 0), (47, .iand, [], 0, 0), (48, .ifCond .ne 10, [(58, 0)], 0, 0), (51, .aload_n 0, [], 0, 0), (52, .iconst 0, [], 0, 0), (53, .putfield 15, [], 0, 2), (56, .iconst 0, [], 0, 0), (57, .ireturn, [], 0, 0)], 58),
  (58, [(58, .aload_n 0, [], 0, 0), (59, .dup, [], 0, 0), (60, .getfield 15, [], 0, 2), (63, .iconst 1, [], 1, 0), (64, .iadd, [], 0, 0), (65, .putfield 15, [], 0, 2), (68, .aload_n 0, [], 0, 0), (69, .getfield 15, [], 0, 2), (72, .iload_n 1, [], 0, 0), (73, .invokestatic 22, [], 0, 0), (76, .if_icmp .ge 5, [(81, 0)], 0, 0), (79, .iconst 0, [], 0, 0), (80, .ireturn, [], 0, 0)], 81),
  (81, [(81, .aload_n 0, [], 0, 0), (82, .iconst 0, [], 0, 0), (83, .putfield 15, [], 0, 2), (86, .iload_n 1, [], 0, 0), (87, .bipush 64, [], 64, 0), (89, .iand, [], 0, 0), (90, .ifCond .ne 5, [(95, 0)], 0, 0), (93, .iconst 1, [], 1, 0), (94, .ireturn, [], 0, 0)], 95),
  (95, [(95, .aload_n 0, [], 0, 0), (96, .getfield 9, [], 0, 1), (99, .bipush 96, [], 96, 0), (101, .iload_n 1, [], 0, 0), (102, .sipush 128, [], 128, 0), (105, .ior, [], 0, 0), (106, .iastore, [], 0, 0), (107, .iconst 0, [], 0, 0), (108, .ireturn, [], 0, 0)], 109)]
def fdX7_cycle : mFt := [(19, 10, 2, 1), (9, 10, 0, 0), (15, 10, 1, 1)]
def clX7_cycle : mCt := [(22, 1, 1, 0, spX7_limit)]
def spX7_cycle : mSp := mSpOf shC fdX7_cycle clX7_cycle bsX7_cycle 1 (some .boolean)
abbrev rmX7_cycle : Room := { frames := 1, cells := 0, slots := 0, locals := 21 }
abbrev wkX7_cycle : List Jvm.Cond := .code yX7_cycle cX7_cycle 2 (some .boolean) :: wC
set_option maxRecDepth 100000 in
set_option maxHeartbeats 4000000 in
theorem metX7_cycle (l : Launch) (D : va_G) (ad : Nat → Nat) (tc : Nat → ClassId) : mMet l D vwCl ad tc shC yX7_cycle wkX7_cycle rmX7_cycle spX7_cycle :=
  mMet_of (own := RX7) (ret := (some .boolean)) (Fd := fdX7_cycle) (Cl := clX7_cycle) (Ks := []) (Fi := [(19, 0), (9, 0), (15, 0)]) (Ci := [(22, 1)]) (bs := bsX7_cycle) rfl (by decide +kernel) rfl (by decide +kernel)
    (List.forall_mem_cons.mpr ⟨⟨RX7, TX7, 3, rfl, by decide, fun w h => mIn (inC_X7 w h), mIn (mAt (i := 56) (by decide +kernel)), fun _ => ⟨tyX7, tyX7_ok, nmX7, rfl, by decide +kernel⟩⟩, List.forall_mem_cons.mpr ⟨⟨RX7, TX7, 3, rfl, by decide, fun w h => mIn (inC_X7 w h), mIn (mAt (i := 55) (by decide +kernel)), fun h => absurd h (by decide)⟩, List.forall_mem_cons.mpr ⟨⟨RX7, TX7, 3, rfl, by decide, fun w h => mIn (inC_X7 w h), mIn (mAt (i := 391) (by decide +kernel)), fun _ => ⟨tyX7, tyX7_ok, nmX7, rfl, by decide +kernel⟩⟩, fun _ h => absurd h List.not_mem_nil⟩⟩⟩)
    (fun _ h => absurd h List.not_mem_nil)
    (List.forall_mem_cons.mpr ⟨Or.inr ⟨rfl, yX7_limit, cX7_limit, 2, (some .int), wkX7_limit, _, rmX7_limit, mGoodS goodC (mAt (i := 424) (by decide +kernel)) (mAt (i := 425) (by decide +kernel)) (mAt (i := 85) (by decide +kernel)) (mAt (i := 422) (by decide +kernel)), rfl, rfl, rfl, by decide +kernel, by decide, metX7_limit l D ad tc⟩, fun _ h => absurd h List.not_mem_nil⟩) rfl rfl (by decide +kernel) (by decide) (by decide)
-- FlashBoard$Memory.cycle
def bsX5_cycle : List mBl := [(0, [(0, .aload_n 0, [], 0, 0), (1, .getfield 20, [], 0, 0), (4, .invokevirtual 74, [], 0, 0), (7, .aload_n 0, [], 0, 0), (8, .getfield 61, [], 0, 1), (11, .ifCond .le 32, [(43, 0)], 0, 0), (14, .aload_n 0, [], 0, 0), (15, .dup, [], 0, 0), (16, .getfield 61, [], 0, 1), (19, .iconst 1, [], 1, 0), (20, .isub, [], 0, 0), (21, .putfield 61, [], 0, 1), (24, .aload_n 0, [], 0, 0), (25, .getfield 61, [], 0, 1), (28, .ifCond .ne 15, [(43, 0)], 0, 0), (31, .aload_n 0, [], 0, 0), (32, .getfield 9, [], 0, 2), (35, .bipush 85, [], 85, 0), (37, .dup2, [], 0, 0), (38, .iaload, [], 0, 0), (39, .bipush (-2), [], (-2), 0), (41, .iand, [], 0, 0), (42, .iastore, [], 0, 0)], 43),
  (43, [(43, .aload_n 0, [], 0, 0), (44, .getfield 27, [], 0, 3), (47, .invokevirtual 77, [], 0, 1), (50, .aload_n 0, [], 0, 0), (51, .getfield 34, [], 0, 4), (54, .invokevirtual 78, [], 0, 2), (57, .aload_n 0, [], 0, 0), (58, .getfield 41, [], 0, 5), (61, .invokevirtual 79, [], 0, 3), (64, .aload_n 0, [], 0, 0), (65, .getfield 48, [], 0, 6), (68, .invokevirtual 80, [], 0, 4), (71, .ireturn, [], 0, 0)], 72)]
def fdX5_cycle : mFt := [(20, 8, 1, 0), (61, 8, 7, 1), (9, 8, 0, 0), (27, 8, 2, 0), (34, 8, 3, 0), (41, 8, 4, 0), (48, 8, 5, 0)]
def clX5_cycle : mCt := [(74, 0, 0, 6, spX3_cycle), (77, 0, 0, 9, spX6_cycle), (78, 0, 0, 7, spX4_cycle), (79, 0, 0, 5, spX2_cycle), (80, 0, 0, 10, spX7_cycle)]
def spX5_cycle : mSp := mSpOf shC fdX5_cycle clX5_cycle bsX5_cycle 1 (some .boolean)
abbrev rmX5_cycle : Room := { frames := 2, cells := 0, slots := 0, locals := 42 }
abbrev wkX5_cycle : List Jvm.Cond := .code yX5_cycle cX5_cycle 1 (some .boolean) :: wC
set_option maxRecDepth 100000 in
set_option maxHeartbeats 4000000 in
theorem metX5_cycle (l : Launch) (D : va_G) (ad : Nat → Nat) (tc : Nat → ClassId) : mMet l D vwCl ad tc shC yX5_cycle wkX5_cycle rmX5_cycle spX5_cycle :=
  mMet_of (own := RX5) (ret := (some .boolean)) (Fd := fdX5_cycle) (Cl := clX5_cycle) (Ks := []) (Fi := [(20, 0), (61, 0), (9, 0), (27, 0), (34, 0), (41, 0), (48, 0)]) (Ci := [(74, 0), (77, 0), (78, 0), (79, 0), (80, 0)]) (bs := bsX5_cycle) rfl (by decide +kernel) rfl (by decide +kernel)
    (List.forall_mem_cons.mpr ⟨⟨RX5, TX5, 9, rfl, by decide, fun w h => mIn (inC_X5 w h), mIn (mAt (i := 66) (by decide +kernel)), fun h => absurd h (by decide)⟩, List.forall_mem_cons.mpr ⟨⟨RX5, TX5, 9, rfl, by decide, fun w h => mIn (inC_X5 w h), mIn (mAt (i := 49) (by decide +kernel)), fun _ => ⟨tyX5, tyX5_ok, nmX5, rfl, by decide +kernel⟩⟩, List.forall_mem_cons.mpr ⟨⟨RX5, TX5, 9, rfl, by decide, fun w h => mIn (inC_X5 w h), mIn (mAt (i := 48) (by decide +kernel)), fun h => absurd h (by decide)⟩, List.forall_mem_cons.mpr ⟨⟨RX5, TX5, 9, rfl, by decide, fun w h => mIn (inC_X5 w h), mIn (mAt (i := 393) (by decide +kernel)), fun h => absurd h (by decide)⟩, List.forall_mem_cons.mpr ⟨⟨RX5, TX5, 9, rfl, by decide, fun w h => mIn (inC_X5 w h), mIn (mAt (i := 68) (by decide +kernel)), fun h => absurd h (by decide)⟩, List.forall_mem_cons.mpr ⟨⟨RX5, TX5, 9, rfl, by decide, fun w h => mIn (inC_X5 w h), mIn (mAt (i := 65) (by decide +kernel)), fun h => absurd h (by decide)⟩, List.forall_mem_cons.mpr ⟨⟨RX5, TX5, 9, rfl, by decide, fun w h => mIn (inC_X5 w h), mIn (mAt (i := 67) (by decide +kernel)), fun h => absurd h (by decide)⟩, fun _ h => absurd h List.not_mem_nil⟩⟩⟩⟩⟩⟩⟩)
    (fun _ h => absurd h List.not_mem_nil)
    (List.forall_mem_cons.mpr ⟨Or.inl ⟨rfl, RX3, TX3, 8, yX3_cycle, cX3_cycle, 1, none, wkX3_cycle, _, rmX3_cycle, rfl, mGoodV goodC (mAt (i := 427) (by decide +kernel)) (mAt (i := 428) (by decide +kernel)) (mAt (i := 429) (by decide +kernel)) (mAt (i := 81) (by decide +kernel)) (mAt (i := 363) (by decide +kernel)), rfl, rfl, rfl, by decide +kernel, by decide, metX3_cycle l D ad tc⟩, List.forall_mem_cons.mpr ⟨Or.inl ⟨rfl, RX6, TX6, 2, yX6_cycle, cX6_cycle, 2, none, wkX6_cycle, _, rmX6_cycle, rfl, mGoodV goodC (mAt (i := 430) (by decide +kernel)) (mAt (i := 431) (by decide +kernel)) (mAt (i := 432) (by decide +kernel)) (mAt (i := 416) (by decide +kernel)) (mAt (i := 414) (by decide +kernel)), rfl, rfl, rfl, by decide +kernel, by decide, metX6_cycle l D ad tc⟩, List.forall_mem_cons.mpr ⟨Or.inl ⟨rfl, RX4, TX4, 15, yX4_cycle, cX4_cycle, 1, none, wkX4_cycle, _, rmX4_cycle, rfl, mGoodV goodC (mAt (i := 433) (by decide +kernel)) (mAt (i := 434) (by decide +kernel)) (mAt (i := 435) (by decide +kernel)) (mAt (i := 89) (by decide +kernel)) (mAt (i := 374) (by decide +kernel)), rfl, rfl, rfl, by decide +kernel, by decide, metX4_cycle l D ad tc⟩, List.forall_mem_cons.mpr ⟨Or.inl ⟨rfl, RX2, TX2, 4, yX2_cycle, cX2_cycle, 1, none, wkX2_cycle, _, rmX2_cycle, rfl, mGoodV goodC (mAt (i := 436) (by decide +kernel)) (mAt (i := 437) (by decide +kernel)) (mAt (i := 438) (by decide +kernel)) (mAt (i := 70) (by decide +kernel)) (mAt (i := 360) (by decide +kernel)), rfl, rfl, rfl, by decide +kernel, by decide, metX2_cycle l D ad tc⟩, List.forall_mem_cons.mpr ⟨Or.inl ⟨rfl, RX7, TX7, 3, yX7_cycle, cX7_cycle, 2, (some .boolean), wkX7_cycle, _, rmX7_cycle, rfl, mGoodV goodC (mAt (i := 439) (by decide +kernel)) (mAt (i := 440) (by decide +kernel)) (mAt (i := 441) (by decide +kernel)) (mAt (i := 85) (by decide +kernel)) (mAt (i := 423) (by decide +kernel)), rfl, rfl, rfl, by decide +kernel, by decide, metX7_cycle l D ad tc⟩, fun _ h => absurd h List.not_mem_nil⟩⟩⟩⟩⟩) rfl rfl (by decide +kernel) (by decide) (by decide)
-- java/lang/Integer.bitCount
def bsJ6_bitCount_0f7a4 : List mBl := [(0, [(0, .iload_n 0, [], 0, 0), (1, .iload_n 0, [], 0, 0), (2, .iconst 1, [], 1, 0), (3, .iushr, [], 0, 0), (4, .ldc_w 265, [], 1431655765, 0), (7, .iand, [], 0, 0), (8, .isub, [], 0, 0), (9, .istore_n 0, [], 0, 0), (10, .iload_n 0, [], 0, 0), (11, .ldc_w 266, [], 858993459, 1), (14, .iand, [], 0, 0), (15, .iload_n 0, [], 0, 0), (16, .iconst 2, [], 2, 0), (17, .iushr, [], 0, 0), (18, .ldc_w 266, [], 858993459, 1), (21, .iand, [], 0, 0), (22, .iadd, [], 0, 0), (23, .istore_n 0, [], 0, 0), (24, .iload_n 0, [], 0, 0), (25, .iload_n 0, [], 0, 0), (26, .iconst 4, [], 4, 0), (27, .iushr, [], 0, 0), (28, .iadd, [], 0, 0), (29, .ldc_w 267, [], 252645135, 2), (32, .iand, [], 0, 0), (33, .istore_n 0, [], 0, 0), (34, .iload_n 0, [], 0, 0), (35, .iload_n 0, [], 0, 0), (36, .bipush 8, [], 8, 0), (38, .iushr, [], 0, 0), (39, .iadd, [], 0, 0), (40, .istore_n 0, [], 0, 0), (41, .iload_n 0, [], 0, 0), (42, .iload_n 0, [], 0, 0), (43, .bipush 16, [], 16, 0), (45, .iushr, [], 0, 0), (46, .iadd, [], 0, 0), (47, .istore_n 0, [], 0, 0), (48, .iload_n 0, [], 0, 0), (49, .bipush 63, [], 63, 0), (51, .iand, [], 0, 0), (52, .ireturn, [], 0, 0)], 53)]
def fdJ6_bitCount_0f7a4 : mFt := []
def clJ6_bitCount_0f7a4 : mCt := []
def spJ6_bitCount_0f7a4 : mSp := mSpOf shC fdJ6_bitCount_0f7a4 clJ6_bitCount_0f7a4 bsJ6_bitCount_0f7a4 1 (some .int)
abbrev rmJ6_bitCount_0f7a4 : Room := { frames := 0, cells := 0, slots := 0, locals := 0 }
abbrev wkJ6_bitCount_0f7a4 : List Jvm.Cond := .code yJ6_bitCount_0f7a4 cJ6_bitCount_0f7a4 1 (some .int) :: wC
set_option maxRecDepth 100000 in
set_option maxHeartbeats 4000000 in
theorem metJ6_bitCount_0f7a4 (l : Launch) (D : va_G) (ad : Nat → Nat) (tc : Nat → ClassId) : mMet l D vwCl ad tc shC yJ6_bitCount_0f7a4 wkJ6_bitCount_0f7a4 rmJ6_bitCount_0f7a4 spJ6_bitCount_0f7a4 :=
  mMet_of (own := RJ6) (ret := (some .int)) (Fd := fdJ6_bitCount_0f7a4) (Cl := clJ6_bitCount_0f7a4) (Ks := [(265, 1431655765), (266, 858993459), (267, 252645135)]) (Fi := []) (Ci := []) (bs := bsJ6_bitCount_0f7a4) rfl (by decide +kernel) rfl (by decide +kernel)
    (fun _ h => absurd h List.not_mem_nil)
    (List.forall_mem_cons.mpr ⟨mIn (mAt (i := 443) (by decide +kernel)), List.forall_mem_cons.mpr ⟨mIn (mAt (i := 444) (by decide +kernel)), List.forall_mem_cons.mpr ⟨mIn (mAt (i := 445) (by decide +kernel)), fun _ h => absurd h List.not_mem_nil⟩⟩⟩)
    (fun _ h => absurd h List.not_mem_nil) rfl rfl (by decide +kernel) (by decide) (by decide)
-- FlashBoard.about
def bsX8_about : List mBl := [(0, [(0, .iload_n 1, [], 0, 0), (1, .tableswitch 319 0 21 #[103, 111, 119, 135, 140, 145, 150, 155, 166, 180, 191, 202, 213, 224, 235, 246, 257, 268, 279, 287, 298, 311], [(104, 0), (112, 1), (120, 2), (136, 3), (141, 4), (146, 5), (151, 6), (156, 7), (167, 8), (181, 9), (192, 10), (203, 11), (214, 12), (225, 13), (236, 14), (247, 15), (258, 16), (269, 17), (280, 18), (288, 19), (299, 20), (312, 21), (320, 0)], 0, 103)], 104),
  (104, [(104, .aload_n 0, [], 0, 0), (105, .getfield 21, [], 0, 0), (108, .getfield 131, [], 0, 1), (111, .ireturn, [], 0, 0)], 112),
  (112, [(112, .aload_n 0, [], 0, 0), (113, .getfield 10, [], 0, 2), (116, .invokevirtual 134, [], 0, 0), (119, .ireturn, [], 0, 0)], 120),
  (120, [(120, .aload_n 0, [], 0, 0), (121, .getfield 21, [], 0, 0), (124, .getfield 137, [], 0, 3), (127, .ifCond .eq 7, [(134, 0)], 0, 0), (130, .iconst 1, [], 1, 0), (131, .goto 4, [(135, 0)], 0, 0)], 134),
  (134, [(134, .iconst 0, [], 0, 0)], 135),
  (135, [(135, .ireturn, [], 0, 0)], 136),
  (136, [(136, .aload_n 0, [], 0, 0), (137, .getfield 140, [], 0, 4), (140, .ireturn, [], 0, 0)], 141),
  (141, [(141, .aload_n 0, [], 0, 0), (142, .getfield 143, [], 0, 5), (145, .ireturn, [], 0, 0)], 146),
  (146, [(146, .aload_n 0, [], 0, 0), (147, .getfield 146, [], 0, 6), (150, .ireturn, [], 0, 0)], 151),
  (151, [(151, .aload_n 0, [], 0, 0), (152, .getfield 149, [], 0, 7), (155, .ireturn, [], 0, 0)], 156),
  (156, [(156, .aload_n 0, [], 0, 0), (157, .getfield 10, [], 0, 2), (160, .getfield 79, [], 0, 8), (163, .getfield 152, [], 0, 9), (166, .ireturn, [], 0, 0)], 167),
  (167, [(167, .aload_n 0, [], 0, 0), (168, .getfield 10, [], 0, 2), (171, .getfield 79, [], 0, 8), (174, .getfield 155, [], 0, 10), (177, .invokestatic 158, [], 0, 1), (180, .ireturn, [], 0, 0)], 181),
  (181, [(181, .aload_n 0, [], 0, 0), (182, .getfield 10, [], 0, 2), (185, .getfield 163, [], 0, 11), (188, .getfield 167, [], 0, 12), (191, .ireturn, [], 0, 0)], 192),
  (192, [(192, .aload_n 0, [], 0, 0), (193, .getfield 10, [], 0, 2), (196, .getfield 172, [], 0, 13), (199, .getfield 176, [], 0, 14), (202, .ireturn, [], 0, 0)], 203),
  (203, [(203, .aload_n 0, [], 0, 0), (204, .getfield 10, [], 0, 2), (207, .getfield 47, [], 0, 15), (210, .getfield 181, [], 0, 16), (213, .ireturn, [], 0, 0)], 214),
  (214, [(214, .aload_n 0, [], 0, 0), (215, .getfield 10, [], 0, 2), (218, .getfield 47, [], 0, 15), (221, .getfield 184, [], 0, 17), (224, .ireturn, [], 0, 0)], 225),
  (225, [(225, .aload_n 0, [], 0, 0), (226, .getfield 10, [], 0, 2), (229, .getfield 47, [], 0, 15), (232, .getfield 187, [], 0, 18), (235, .ireturn, [], 0, 0)], 236),
  (236, [(236, .aload_n 0, [], 0, 0), (237, .getfield 10, [], 0, 2), (240, .getfield 47, [], 0, 15), (243, .getfield 190, [], 0, 19), (246, .ireturn, [], 0, 0)], 247),
  (247, [(247, .aload_n 0, [], 0, 0), (248, .getfield 10, [], 0, 2), (251, .getfield 108, [], 0, 20), (254, .getfield 193, [], 0, 21), (257, .ireturn, [], 0, 0)], 258),
  (258, [(258, .aload_n 0, [], 0, 0), (259, .getfield 10, [], 0, 2), (262, .getfield 79, [], 0, 8), (265, .getfield 196, [], 0, 22), (268, .ireturn, [], 0, 0)], 269),
  (269, [(269, .aload_n 0, [], 0, 0), (270, .getfield 10, [], 0, 2), (273, .getfield 163, [], 0, 11), (276, .getfield 199, [], 0, 23), (279, .ireturn, [], 0, 0)], 280),
  (280, [(280, .aload_n 0, [], 0, 0), (281, .getfield 10, [], 0, 2), (284, .getfield 200, [], 0, 24), (287, .ireturn, [], 0, 0)], 288),
  (288, [(288, .aload_n 0, [], 0, 0), (289, .getfield 10, [], 0, 2), (292, .getfield 108, [], 0, 20), (295, .getfield 203, [], 0, 25), (298, .ireturn, [], 0, 0)], 299),
  (299, [(299, .aload_n 0, [], 0, 0), (300, .getfield 25, [], 0, 26), (303, .ifCond .eq 7, [(310, 0)], 0, 0), (306, .iconst 1, [], 1, 0), (307, .goto 4, [(311, 0)], 0, 0)], 310),
  (310, [(310, .iconst 0, [], 0, 0)], 311),
  (311, [(311, .ireturn, [], 0, 0)], 312),
  (312, [(312, .aload_n 0, [], 0, 0), (313, .getfield 21, [], 0, 0), (316, .invokevirtual 204, [], 0, 2), (319, .ireturn, [], 0, 0)], 320)]
def fdX8_about : mFt := [(21, 11, 1, 0), (131, 4, 4, 1), (10, 11, 0, 0), (137, 4, 5, 2), (140, 11, 3, 1), (143, 11, 4, 1), (146, 11, 5, 1), (149, 11, 6, 1), (79, 8, 1, 0), (152, 6, 7, 1), (155, 6, 3, 1), (163, 8, 5, 0), (167, 10, 1, 1), (172, 8, 2, 0), (176, 9, 1, 1), (47, 8, 3, 0), (181, 7, 3, 1), (184, 7, 14, 1), (187, 7, 9, 1), (190, 7, 11, 1), (108, 8, 4, 0), (193, 5, 3, 1), (196, 6, 6, 1), (199, 10, 2, 1), (200, 8, 7, 1), (203, 5, 2, 1), (25, 11, 2, 2)]
def clX8_about : mCt := [(134, 0, 0, 8, spX5_stackPointer), (158, 1, 1, 0, spJ6_bitCount_0f7a4), (204, 0, 0, 4, spX1_waitingInterrupt)]
def spX8_about : mSp := mSpOf shC fdX8_about clX8_about bsX8_about 2 (some .int)
abbrev rmX8_about : Room := { frames := 1, cells := 0, slots := 0, locals := 22 }
abbrev wkX8_about : List Jvm.Cond := .code yX8_about cX8_about 2 (some .int) :: wC
set_option maxRecDepth 100000 in
set_option maxHeartbeats 4000000 in
theorem metX8_about (l : Launch) (D : va_G) (ad : Nat → Nat) (tc : Nat → ClassId) : mMet l D vwCl ad tc shC yX8_about wkX8_about rmX8_about spX8_about :=
  mMet_of (own := RX8) (ret := (some .int)) (Fd := fdX8_about) (Cl := clX8_about) (Ks := []) (Fi := [(21, 0), (131, 0), (10, 0), (137, 0), (140, 0), (143, 0), (146, 0), (149, 0), (79, 0), (152, 0), (155, 0), (163, 0), (167, 0), (172, 0), (176, 0), (47, 0), (181, 0), (184, 0), (187, 0), (190, 0), (108, 0), (193, 0), (196, 0), (199, 0), (200, 0), (203, 0), (25, 0)]) (Ci := [(134, 0), (158, 1), (204, 0)]) (bs := bsX8_about) rfl (by decide +kernel) rfl (by decide +kernel)
    (List.forall_mem_cons.mpr ⟨⟨RX8, TX8, 7, rfl, by decide, fun w h => mIn (inC_X8 w h), mIn (mAt (i := 447) (by decide +kernel)), fun h => absurd h (by decide)⟩, List.forall_mem_cons.mpr ⟨⟨RX1, TX1, 8, rfl, by decide, fun w h => mIn (inC_X1 w h), mIn (mAt (i := 448) (by decide +kernel)), fun _ => ⟨tyX1, tyX1_ok, nmX1, rfl, by decide +kernel⟩⟩, List.forall_mem_cons.mpr ⟨⟨RX8, TX8, 7, rfl, by decide, fun w h => mIn (inC_X8 w h), mIn (mAt (i := 449) (by decide +kernel)), fun h => absurd h (by decide)⟩, List.forall_mem_cons.mpr ⟨⟨RX1, TX1, 8, rfl, by decide, fun w h => mIn (inC_X1 w h), mIn (mAt (i := 450) (by decide +kernel)), fun _ => ⟨tyX1, tyX1_ok, nmX1, rfl, by decide +kernel⟩⟩, List.forall_mem_cons.mpr ⟨⟨RX8, TX8, 7, rfl, by decide, fun w h => mIn (inC_X8 w h), mIn (mAt (i := 451) (by decide +kernel)), fun _ => ⟨tyX8, tyX8_ok, nmX8, rfl, by decide +kernel⟩⟩, List.forall_mem_cons.mpr ⟨⟨RX8, TX8, 7, rfl, by decide, fun w h => mIn (inC_X8 w h), mIn (mAt (i := 452) (by decide +kernel)), fun _ => ⟨tyX8, tyX8_ok, nmX8, rfl, by decide +kernel⟩⟩, List.forall_mem_cons.mpr ⟨⟨RX8, TX8, 7, rfl, by decide, fun w h => mIn (inC_X8 w h), mIn (mAt (i := 453) (by decide +kernel)), fun _ => ⟨tyX8, tyX8_ok, nmX8, rfl, by decide +kernel⟩⟩, List.forall_mem_cons.mpr ⟨⟨RX8, TX8, 7, rfl, by decide, fun w h => mIn (inC_X8 w h), mIn (mAt (i := 454) (by decide +kernel)), fun _ => ⟨tyX8, tyX8_ok, nmX8, rfl, by decide +kernel⟩⟩, List.forall_mem_cons.mpr ⟨⟨RX5, TX5, 9, rfl, by decide, fun w h => mIn (inC_X5 w h), mIn (mAt (i := 455) (by decide +kernel)), fun h => absurd h (by decide)⟩, List.forall_mem_cons.mpr ⟨⟨RX3, TX3, 8, rfl, by decide, fun w h => mIn (inC_X3 w h), mIn (mAt (i := 456) (by decide +kernel)), fun _ => ⟨tyX3, tyX3_ok, nmX3, rfl, by decide +kernel⟩⟩, List.forall_mem_cons.mpr ⟨⟨RX3, TX3, 8, rfl, by decide, fun w h => mIn (inC_X3 w h), mIn (mAt (i := 457) (by decide +kernel)), fun _ => ⟨tyX3, tyX3_ok, nmX3, rfl, by decide +kernel⟩⟩, List.forall_mem_cons.mpr ⟨⟨RX5, TX5, 9, rfl, by decide, fun w h => mIn (inC_X5 w h), mIn (mAt (i := 458) (by decide +kernel)), fun h => absurd h (by decide)⟩, List.forall_mem_cons.mpr ⟨⟨RX7, TX7, 3, rfl, by decide, fun w h => mIn (inC_X7 w h), mIn (mAt (i := 459) (by decide +kernel)), fun _ => ⟨tyX7, tyX7_ok, nmX7, rfl, by decide +kernel⟩⟩, List.forall_mem_cons.mpr ⟨⟨RX5, TX5, 9, rfl, by decide, fun w h => mIn (inC_X5 w h), mIn (mAt (i := 460) (by decide +kernel)), fun h => absurd h (by decide)⟩, List.forall_mem_cons.mpr ⟨⟨RX6, TX6, 2, rfl, by decide, fun w h => mIn (inC_X6 w h), mIn (mAt (i := 461) (by decide +kernel)), fun _ => ⟨tyX6, tyX6_ok, nmX6, rfl, by decide +kernel⟩⟩, List.forall_mem_cons.mpr ⟨⟨RX5, TX5, 9, rfl, by decide, fun w h => mIn (inC_X5 w h), mIn (mAt (i := 462) (by decide +kernel)), fun h => absurd h (by decide)⟩, List.forall_mem_cons.mpr ⟨⟨RX4, TX4, 15, rfl, by decide, fun w h => mIn (inC_X4 w h), mIn (mAt (i := 463) (by decide +kernel)), fun _ => ⟨tyX4, tyX4_ok, nmX4, rfl, by decide +kernel⟩⟩, List.forall_mem_cons.mpr ⟨⟨RX4, TX4, 15, rfl, by decide, fun w h => mIn (inC_X4 w h), mIn (mAt (i := 464) (by decide +kernel)), fun _ => ⟨tyX4, tyX4_ok, nmX4, rfl, by decide +kernel⟩⟩, List.forall_mem_cons.mpr ⟨⟨RX4, TX4, 15, rfl, by decide, fun w h => mIn (inC_X4 w h), mIn (mAt (i := 465) (by decide +kernel)), fun _ => ⟨tyX4, tyX4_ok, nmX4, rfl, by decide +kernel⟩⟩, List.forall_mem_cons.mpr ⟨⟨RX4, TX4, 15, rfl, by decide, fun w h => mIn (inC_X4 w h), mIn (mAt (i := 466) (by decide +kernel)), fun _ => ⟨tyX4, tyX4_ok, nmX4, rfl, by decide +kernel⟩⟩, List.forall_mem_cons.mpr ⟨⟨RX5, TX5, 9, rfl, by decide, fun w h => mIn (inC_X5 w h), mIn (mAt (i := 467) (by decide +kernel)), fun h => absurd h (by decide)⟩, List.forall_mem_cons.mpr ⟨⟨RX2, TX2, 4, rfl, by decide, fun w h => mIn (inC_X2 w h), mIn (mAt (i := 468) (by decide +kernel)), fun _ => ⟨tyX2, tyX2_ok, nmX2, rfl, by decide +kernel⟩⟩, List.forall_mem_cons.mpr ⟨⟨RX3, TX3, 8, rfl, by decide, fun w h => mIn (inC_X3 w h), mIn (mAt (i := 469) (by decide +kernel)), fun _ => ⟨tyX3, tyX3_ok, nmX3, rfl, by decide +kernel⟩⟩, List.forall_mem_cons.mpr ⟨⟨RX7, TX7, 3, rfl, by decide, fun w h => mIn (inC_X7 w h), mIn (mAt (i := 470) (by decide +kernel)), fun _ => ⟨tyX7, tyX7_ok, nmX7, rfl, by decide +kernel⟩⟩, List.forall_mem_cons.mpr ⟨⟨RX5, TX5, 9, rfl, by decide, fun w h => mIn (inC_X5 w h), mIn (mAt (i := 471) (by decide +kernel)), fun _ => ⟨tyX5, tyX5_ok, nmX5, rfl, by decide +kernel⟩⟩, List.forall_mem_cons.mpr ⟨⟨RX2, TX2, 4, rfl, by decide, fun w h => mIn (inC_X2 w h), mIn (mAt (i := 472) (by decide +kernel)), fun _ => ⟨tyX2, tyX2_ok, nmX2, rfl, by decide +kernel⟩⟩, List.forall_mem_cons.mpr ⟨⟨RX8, TX8, 7, rfl, by decide, fun w h => mIn (inC_X8 w h), mIn (mAt (i := 473) (by decide +kernel)), fun _ => ⟨tyX8, tyX8_ok, nmX8, rfl, by decide +kernel⟩⟩, fun _ h => absurd h List.not_mem_nil⟩⟩⟩⟩⟩⟩⟩⟩⟩⟩⟩⟩⟩⟩⟩⟩⟩⟩⟩⟩⟩⟩⟩⟩⟩⟩⟩)
    (fun _ h => absurd h List.not_mem_nil)
    (List.forall_mem_cons.mpr ⟨Or.inl ⟨rfl, RX5, TX5, 9, yX5_stackPointer, cX5_stackPointer, 1, (some .int), wkX5_stackPointer, _, rmX5_stackPointer, rfl, mGoodV goodC (mAt (i := 474) (by decide +kernel)) (mAt (i := 152) (by decide +kernel)) (mAt (i := 153) (by decide +kernel)) (mAt (i := 77) (by decide +kernel)) (mAt (i := 148) (by decide +kernel)), rfl, rfl, rfl, by decide +kernel, by decide, metX5_stackPointer l D ad tc⟩, List.forall_mem_cons.mpr ⟨Or.inr ⟨rfl, yJ6_bitCount_0f7a4, cJ6_bitCount_0f7a4, 1, (some .int), wkJ6_bitCount_0f7a4, _, rmJ6_bitCount_0f7a4, mGoodS goodC (mAt (i := 475) (by decide +kernel)) (mAt (i := 477) (by decide +kernel)) (mAt (i := 476) (by decide +kernel)) (mAt (i := 442) (by decide +kernel)), rfl, rfl, rfl, by decide +kernel, by decide, metJ6_bitCount_0f7a4 l D ad tc⟩, List.forall_mem_cons.mpr ⟨Or.inl ⟨rfl, RX1, TX1, 8, yX1_waitingInterrupt, cX1_waitingInterrupt, 3, (some .int), wkX1_waitingInterrupt, _, rmX1_waitingInterrupt, rfl, mGoodV goodC (mAt (i := 478) (by decide +kernel)) (mAt (i := 479) (by decide +kernel)) (mAt (i := 480) (by decide +kernel)) (mAt (i := 111) (by decide +kernel)) (mAt (i := 358) (by decide +kernel)), rfl, rfl, rfl, by decide +kernel, by decide, metX1_waitingInterrupt l D ad tc⟩, fun _ h => absurd h List.not_mem_nil⟩⟩⟩) rfl rfl (by decide +kernel) (by decide) (by decide)
-- FlashBoard.inFlash
def bsX8_inFlash : List mBl := [(0, [(0, .iload_n 0, [], 0, 0), (1, .ifCond .lt 14, [(15, 0)], 0, 0), (4, .iload_n 0, [], 0, 0), (5, .sipush 2048, [], 2048, 0), (8, .if_icmp .ge 7, [(15, 0)], 0, 0), (11, .iconst 1, [], 1, 0), (12, .goto 4, [(16, 0)], 0, 0)], 15),
  (15, [(15, .iconst 0, [], 0, 0)], 16),
  (16, [(16, .ireturn, [], 0, 0)], 17)]
def fdX8_inFlash : mFt := []
def clX8_inFlash : mCt := []
def spX8_inFlash : mSp := mSpOf shC fdX8_inFlash clX8_inFlash bsX8_inFlash 1 (some .boolean)
abbrev rmX8_inFlash : Room := { frames := 0, cells := 0, slots := 0, locals := 0 }
abbrev wkX8_inFlash : List Jvm.Cond := .code yX8_inFlash cX8_inFlash 1 (some .boolean) :: wC
set_option maxRecDepth 100000 in
set_option maxHeartbeats 4000000 in
theorem metX8_inFlash (l : Launch) (D : va_G) (ad : Nat → Nat) (tc : Nat → ClassId) : mMet l D vwCl ad tc shC yX8_inFlash wkX8_inFlash rmX8_inFlash spX8_inFlash :=
  mMet_of (own := RX8) (ret := (some .boolean)) (Fd := fdX8_inFlash) (Cl := clX8_inFlash) (Ks := []) (Fi := []) (Ci := []) (bs := bsX8_inFlash) rfl (by decide +kernel) rfl (by decide +kernel)
    (fun _ h => absurd h List.not_mem_nil)
    (fun _ h => absurd h List.not_mem_nil)
    (fun _ h => absurd h List.not_mem_nil) rfl rfl (by decide +kernel) (by decide) (by decide)
-- FlashBoard.burn
def bsX8_burn : List mBl := [(0, [(0, .iload_n 1, [], 0, 0), (1, .invokestatic 70, [], 0, 0), (4, .ifCond .ne 13, [(17, 0)], 0, 0)], 7),
  (17, [(17, .aload_n 0, [], 0, 0), (18, .getfield 10, [], 0, 0), (21, .getfield 79, [], 0, 1), (24, .astore 7, [], 0, 0), (26, .aload 7, [], 0, 0), (28, .iload_n 1, [], 0, 0), (29, .iload_n 2, [], 0, 0), (30, .invokevirtual 83, [], 0, 1), (33, .aload 7, [], 0, 0), (35, .iload_n 1, [], 0, 0), (36, .iconst 2, [], 2, 0), (37, .iadd, [], 0, 0), (38, .iload_n 3, [], 0, 0), (39, .invokevirtual 83, [], 0, 1), (42, .iadd, [], 0, 0), (43, .aload 7, [], 0, 0), (45, .iload_n 1, [], 0, 0), (46, .iconst 4, [], 4, 0), (47, .iadd, [], 0, 0), (48, .iload 4, [], 0, 0), (50, .invokevirtual 83, [], 0, 1), (53, .iadd, [], 0, 0), (54, .aload 7, [], 0, 0), (56, .iload_n 1, [], 0, 0), (57, .bipush 6, [], 6, 0), (59, .iadd, [], 0, 0), (60, .iload 5, [], 0, 0), (62, .invokevirtual 83, [], 0, 1), (65, .iadd, [], 0, 0), (66, .aload 7, [], 0, 0), (68, .iload_n 1, [], 0, 0), (69, .bipush 8, [], 8, 0), (71, .iadd, [], 0, 0), (72, .iload 6, [], 0, 0), (74, .invokevirtual 83, [], 0, 1), (77, .iadd, [], 0, 0), (78, .ireturn, [], 0, 0)], 79)]
def fdX8_burn : mFt := [(10, 11, 0, 0), (79, 8, 1, 0)]
def clX8_burn : mCt := [(70, 1, 1, 0, spX8_inFlash), (83, 0, 2, 6, spX3_burnPair)]
def spX8_burn : mSp := mSpOf shC fdX8_burn clX8_burn bsX8_burn 7 (some .int)
abbrev rmX8_burn : Room := { frames := 1, cells := 0, slots := 0, locals := 23 }
abbrev wkX8_burn : List Jvm.Cond := .code yX8_burn cX8_burn 8 (some .int) :: wC
set_option maxRecDepth 100000 in
set_option maxHeartbeats 4000000 in
theorem metX8_burn (l : Launch) (D : va_G) (ad : Nat → Nat) (tc : Nat → ClassId) : mMet l D vwCl ad tc shC yX8_burn wkX8_burn rmX8_burn spX8_burn :=
  mMet_of (own := RX8) (ret := (some .int)) (Fd := fdX8_burn) (Cl := clX8_burn) (Ks := []) (Fi := [(10, 0), (79, 0)]) (Ci := [(70, 1), (83, 0)]) (bs := bsX8_burn) rfl (by decide +kernel) rfl (by decide +kernel)
    (List.forall_mem_cons.mpr ⟨⟨RX8, TX8, 7, rfl, by decide, fun w h => mIn (inC_X8 w h), mIn (mAt (i := 449) (by decide +kernel)), fun h => absurd h (by decide)⟩, List.forall_mem_cons.mpr ⟨⟨RX5, TX5, 9, rfl, by decide, fun w h => mIn (inC_X5 w h), mIn (mAt (i := 455) (by decide +kernel)), fun h => absurd h (by decide)⟩, fun _ h => absurd h List.not_mem_nil⟩⟩)
    (fun _ h => absurd h List.not_mem_nil)
    (List.forall_mem_cons.mpr ⟨Or.inr ⟨rfl, yX8_inFlash, cX8_inFlash, 1, (some .boolean), wkX8_inFlash, _, rmX8_inFlash, mGoodS goodC (mAt (i := 483) (by decide +kernel)) (mAt (i := 485) (by decide +kernel)) (mAt (i := 484) (by decide +kernel)) (mAt (i := 481) (by decide +kernel)), rfl, rfl, rfl, by decide +kernel, by decide, metX8_inFlash l D ad tc⟩, List.forall_mem_cons.mpr ⟨Or.inl ⟨rfl, RX3, TX3, 8, yX3_burnPair, cX3_burnPair, 4, (some .int), wkX3_burnPair, _, rmX3_burnPair, rfl, mGoodV goodC (mAt (i := 486) (by decide +kernel)) (mAt (i := 487) (by decide +kernel)) (mAt (i := 488) (by decide +kernel)) (mAt (i := 81) (by decide +kernel)) (mAt (i := 361) (by decide +kernel)), rfl, rfl, rfl, by decide +kernel, by decide, metX3_burnPair l D ad tc⟩, fun _ h => absurd h List.not_mem_nil⟩⟩) rfl rfl (by decide +kernel) (by decide) (by decide)
-- FlashBoard.canBePut
def bsX8_canBePut : List mBl := [(0, [(0, .iload_n 0, [], 0, 0), (1, .ifCond .lt 9, [(10, 0)], 0, 0), (4, .iload_n 0, [], 0, 0), (5, .bipush 32, [], 32, 0), (7, .if_icmp .lt 29, [(36, 0)], 0, 0)], 10),
  (10, [(10, .iload_n 0, [], 0, 0), (11, .bipush 93, [], 93, 0), (13, .if_icmp .lt 9, [(22, 0)], 0, 0), (16, .iload_n 0, [], 0, 0), (17, .bipush 95, [], 95, 0), (19, .if_icmp .le 17, [(36, 0)], 0, 0)], 22),
  (22, [(22, .iload_n 0, [], 0, 0), (23, .sipush 256, [], 256, 0), (26, .if_icmp .lt 14, [(40, 0)], 0, 0), (29, .iload_n 0, [], 0, 0), (30, .sipush 1280, [], 1280, 0), (33, .if_icmp .ge 7, [(40, 0)], 0, 0)], 36),
  (36, [(36, .iconst 1, [], 1, 0), (37, .goto 4, [(41, 0)], 0, 0)], 40),
  (40, [(40, .iconst 0, [], 0, 0)], 41),
  (41, [(41, .ireturn, [], 0, 0)], 42)]
def fdX8_canBePut : mFt := []
def clX8_canBePut : mCt := []
def spX8_canBePut : mSp := mSpOf shC fdX8_canBePut clX8_canBePut bsX8_canBePut 1 (some .boolean)
abbrev rmX8_canBePut : Room := { frames := 0, cells := 0, slots := 0, locals := 0 }
abbrev wkX8_canBePut : List Jvm.Cond := .code yX8_canBePut cX8_canBePut 1 (some .boolean) :: wC
set_option maxRecDepth 100000 in
set_option maxHeartbeats 4000000 in
theorem metX8_canBePut (l : Launch) (D : va_G) (ad : Nat → Nat) (tc : Nat → ClassId) : mMet l D vwCl ad tc shC yX8_canBePut wkX8_canBePut rmX8_canBePut spX8_canBePut :=
  mMet_of (own := RX8) (ret := (some .boolean)) (Fd := fdX8_canBePut) (Cl := clX8_canBePut) (Ks := []) (Fi := []) (Ci := []) (bs := bsX8_canBePut) rfl (by decide +kernel) rfl (by decide +kernel)
    (fun _ h => absurd h List.not_mem_nil)
    (fun _ h => absurd h List.not_mem_nil)
    (fun _ h => absurd h List.not_mem_nil) rfl rfl (by decide +kernel) (by decide) (by decide)
-- FlashBoard.data
def bsX8_data : List mBl := [(0, [(0, .iload_n 1, [], 0, 0), (1, .ifCond .lt 10, [(11, 0)], 0, 0), (4, .iload_n 1, [], 0, 0), (5, .sipush 1280, [], 1280, 0), (8, .if_icmp .lt 13, [(21, 0)], 0, 0)], 11),
  (21, [(21, .iload_n 1, [], 0, 0), (22, .sipush 198, [], 198, 0), (25, .if_icmp .ne 16, [(41, 0)], 0, 0), (28, .aload_n 0, [], 0, 0), (29, .getfield 10, [], 0, 0), (32, .getfield 47, [], 0, 1), (35, .invokevirtual 94, [], 0, 0), (38, .goto 11, [(49, 0)], 0, 0)], 41),
  (41, [(41, .aload_n 0, [], 0, 0), (42, .getfield 10, [], 0, 0), (45, .iload_n 1, [], 0, 0), (46, .invokevirtual 97, [], 0, 1)], 49),
  (49, [(49, .ireturn, [], 0, 0)], 50)]
def fdX8_data : mFt := [(10, 11, 0, 0), (47, 8, 3, 0)]
def clX8_data : mCt := [(94, 0, 0, 7, spX4_firstReceived), (97, 0, 1, 8, spX5_load)]
def spX8_data : mSp := mSpOf shC fdX8_data clX8_data bsX8_data 2 (some .int)
abbrev rmX8_data : Room := { frames := 2, cells := 0, slots := 0, locals := 43 }
abbrev wkX8_data : List Jvm.Cond := .code yX8_data cX8_data 2 (some .int) :: wC
set_option maxRecDepth 100000 in
set_option maxHeartbeats 4000000 in
theorem metX8_data (l : Launch) (D : va_G) (ad : Nat → Nat) (tc : Nat → ClassId) : mMet l D vwCl ad tc shC yX8_data wkX8_data rmX8_data spX8_data :=
  mMet_of (own := RX8) (ret := (some .int)) (Fd := fdX8_data) (Cl := clX8_data) (Ks := []) (Fi := [(10, 0), (47, 0)]) (Ci := [(94, 0), (97, 0)]) (bs := bsX8_data) rfl (by decide +kernel) rfl (by decide +kernel)
    (List.forall_mem_cons.mpr ⟨⟨RX8, TX8, 7, rfl, by decide, fun w h => mIn (inC_X8 w h), mIn (mAt (i := 449) (by decide +kernel)), fun h => absurd h (by decide)⟩, List.forall_mem_cons.mpr ⟨⟨RX5, TX5, 9, rfl, by decide, fun w h => mIn (inC_X5 w h), mIn (mAt (i := 462) (by decide +kernel)), fun h => absurd h (by decide)⟩, fun _ h => absurd h List.not_mem_nil⟩⟩)
    (fun _ h => absurd h List.not_mem_nil)
    (List.forall_mem_cons.mpr ⟨Or.inl ⟨rfl, RX4, TX4, 15, yX4_firstReceived, cX4_firstReceived, 1, (some .int), wkX4_firstReceived, _, rmX4_firstReceived, rfl, mGoodV goodC (mAt (i := 491) (by decide +kernel)) (mAt (i := 492) (by decide +kernel)) (mAt (i := 493) (by decide +kernel)) (mAt (i := 89) (by decide +kernel)) (mAt (i := 387) (by decide +kernel)), rfl, rfl, rfl, by decide +kernel, by decide, metX4_firstReceived l D ad tc⟩, List.forall_mem_cons.mpr ⟨Or.inl ⟨rfl, RX5, TX5, 9, yX5_load, cX5_load, 3, (some .int), wkX5_load, _, rmX5_load, rfl, mGoodV goodC (mAt (i := 494) (by decide +kernel)) (mAt (i := 120) (by decide +kernel)) (mAt (i := 121) (by decide +kernel)) (mAt (i := 77) (by decide +kernel)) (mAt (i := 102) (by decide +kernel)), rfl, rfl, rfl, by decide +kernel, by decide, metX5_load l D ad tc⟩, fun _ h => absurd h List.not_mem_nil⟩⟩) rfl rfl (by decide +kernel) (by decide) (by decide)
-- FlashBoard.eeprom
def bsX8_eeprom : List mBl := [(0, [(0, .iload_n 1, [], 0, 0), (1, .ifCond .lt 18, [(19, 0)], 0, 0), (4, .iload_n 1, [], 0, 0), (5, .aload_n 0, [], 0, 0), (6, .getfield 10, [], 0, 0), (9, .getfield 108, [], 0, 1), (12, .getfield 112, [], 0, 2), (15, .arraylength, [], 0, 0), (16, .if_icmp .lt 13, [(29, 0)], 0, 0)], 19),
  (29, [(29, .aload_n 0, [], 0, 0), (30, .getfield 10, [], 0, 0), (33, .getfield 108, [], 0, 1), (36, .getfield 112, [], 0, 2), (39, .iload_n 1, [], 0, 0), (40, .iaload, [], 0, 0), (41, .ireturn, [], 0, 0)], 42)]
def fdX8_eeprom : mFt := [(10, 11, 0, 0), (108, 8, 4, 0), (112, 5, 1, 0)]
def clX8_eeprom : mCt := []
def spX8_eeprom : mSp := mSpOf shC fdX8_eeprom clX8_eeprom bsX8_eeprom 2 (some .int)
abbrev rmX8_eeprom : Room := { frames := 0, cells := 0, slots := 0, locals := 0 }
abbrev wkX8_eeprom : List Jvm.Cond := .code yX8_eeprom cX8_eeprom 2 (some .int) :: wC
set_option maxRecDepth 100000 in
set_option maxHeartbeats 4000000 in
theorem metX8_eeprom (l : Launch) (D : va_G) (ad : Nat → Nat) (tc : Nat → ClassId) : mMet l D vwCl ad tc shC yX8_eeprom wkX8_eeprom rmX8_eeprom spX8_eeprom :=
  mMet_of (own := RX8) (ret := (some .int)) (Fd := fdX8_eeprom) (Cl := clX8_eeprom) (Ks := []) (Fi := [(10, 0), (108, 0), (112, 0)]) (Ci := []) (bs := bsX8_eeprom) rfl (by decide +kernel) rfl (by decide +kernel)
    (List.forall_mem_cons.mpr ⟨⟨RX8, TX8, 7, rfl, by decide, fun w h => mIn (inC_X8 w h), mIn (mAt (i := 449) (by decide +kernel)), fun h => absurd h (by decide)⟩, List.forall_mem_cons.mpr ⟨⟨RX5, TX5, 9, rfl, by decide, fun w h => mIn (inC_X5 w h), mIn (mAt (i := 467) (by decide +kernel)), fun h => absurd h (by decide)⟩, List.forall_mem_cons.mpr ⟨⟨RX2, TX2, 4, rfl, by decide, fun w h => mIn (inC_X2 w h), mIn (mAt (i := 496) (by decide +kernel)), fun h => absurd h (by decide)⟩, fun _ h => absurd h List.not_mem_nil⟩⟩⟩)
    (fun _ h => absurd h List.not_mem_nil)
    (fun _ h => absurd h List.not_mem_nil) rfl rfl (by decide +kernel) (by decide) (by decide)
-- FlashBoard.fuses
def bsX8_fuses : List mBl := [(0, [(0, .aload_n 0, [], 0, 0), (1, .getfield 10, [], 0, 0), (4, .getfield 79, [], 0, 1), (7, .astore_n 2, [], 0, 0), (8, .aload_n 2, [], 0, 0), (9, .getfield 122, [], 0, 2), (12, .iconst 4, [], 4, 0), (13, .ishl, [], 0, 0), (14, .aload_n 2, [], 0, 0), (15, .getfield 125, [], 0, 3), (18, .ior, [], 0, 0), (19, .istore_n 3, [], 0, 0), (20, .aload_n 2, [], 0, 0), (21, .iload_n 1, [], 0, 0), (22, .bipush 15, [], 15, 0), (24, .iand, [], 0, 0), (25, .putfield 125, [], 0, 3), (28, .aload_n 2, [], 0, 0), (29, .iload_n 1, [], 0, 0), (30, .iconst 4, [], 4, 0), (31, .ishr, [], 0, 0), (32, .iconst 1, [], 1, 0), (33, .iand, [], 0, 0), (34, .putfield 122, [], 0, 2), (37, .iload_n 3, [], 0, 0), (38, .ireturn, [], 0, 0)], 39)]
def fdX8_fuses : mFt := [(10, 11, 0, 0), (79, 8, 1, 0), (122, 6, 5, 1), (125, 6, 4, 1)]
def clX8_fuses : mCt := []
def spX8_fuses : mSp := mSpOf shC fdX8_fuses clX8_fuses bsX8_fuses 2 (some .int)
abbrev rmX8_fuses : Room := { frames := 0, cells := 0, slots := 0, locals := 0 }
abbrev wkX8_fuses : List Jvm.Cond := .code yX8_fuses cX8_fuses 4 (some .int) :: wC
set_option maxRecDepth 100000 in
set_option maxHeartbeats 4000000 in
theorem metX8_fuses (l : Launch) (D : va_G) (ad : Nat → Nat) (tc : Nat → ClassId) : mMet l D vwCl ad tc shC yX8_fuses wkX8_fuses rmX8_fuses spX8_fuses :=
  mMet_of (own := RX8) (ret := (some .int)) (Fd := fdX8_fuses) (Cl := clX8_fuses) (Ks := []) (Fi := [(10, 0), (79, 0), (122, 0), (125, 0)]) (Ci := []) (bs := bsX8_fuses) rfl (by decide +kernel) rfl (by decide +kernel)
    (List.forall_mem_cons.mpr ⟨⟨RX8, TX8, 7, rfl, by decide, fun w h => mIn (inC_X8 w h), mIn (mAt (i := 449) (by decide +kernel)), fun h => absurd h (by decide)⟩, List.forall_mem_cons.mpr ⟨⟨RX5, TX5, 9, rfl, by decide, fun w h => mIn (inC_X5 w h), mIn (mAt (i := 455) (by decide +kernel)), fun h => absurd h (by decide)⟩, List.forall_mem_cons.mpr ⟨⟨RX3, TX3, 8, rfl, by decide, fun w h => mIn (inC_X3 w h), mIn (mAt (i := 498) (by decide +kernel)), fun _ => ⟨tyX3, tyX3_ok, nmX3, rfl, by decide +kernel⟩⟩, List.forall_mem_cons.mpr ⟨⟨RX3, TX3, 8, rfl, by decide, fun w h => mIn (inC_X3 w h), mIn (mAt (i := 499) (by decide +kernel)), fun _ => ⟨tyX3, tyX3_ok, nmX3, rfl, by decide +kernel⟩⟩, fun _ h => absurd h List.not_mem_nil⟩⟩⟩⟩)
    (fun _ h => absurd h List.not_mem_nil)
    (fun _ h => absurd h List.not_mem_nil) rfl rfl (by decide +kernel) (by decide) (by decide)
-- FlashBoard.got
def bsX8_got : List mBl := [(0, [(0, .aload_n 0, [], 0, 0), (1, .getfield 10, [], 0, 0), (4, .getfield 47, [], 0, 1), (7, .astore_n 2, [], 0, 0), (8, .iload_n 1, [], 0, 0), (9, .ifCond .lt 22, [(31, 0)], 0, 0), (12, .iload_n 1, [], 0, 0), (13, .aload_n 2, [], 0, 0), (14, .getfield 57, [], 0, 2), (17, .if_icmp .ge 14, [(31, 0)], 0, 0), (20, .iload_n 1, [], 0, 0), (21, .sipush 1000, [], 1000, 0), (24, .if_icmp .ge 7, [(31, 0)], 0, 0), (27, .iconst 1, [], 1, 0), (28, .goto 4, [(32, 0)], 0, 0)], 31),
  (31, [(31, .iconst 0, [], 0, 0)], 32),
  (32, [(32, .istore_n 3, [], 0, 0), (33, .iload_n 3, [], 0, 0), (34, .ifCond .ne 13, [(47, 0)], 0, 0)], 37),
  (47, [(47, .aload_n 2, [], 0, 0), (48, .getfield 66, [], 0, 3), (51, .iload_n 1, [], 0, 0), (52, .iaload, [], 0, 0), (53, .ireturn, [], 0, 0)], 54)]
def fdX8_got : mFt := [(10, 11, 0, 0), (47, 8, 3, 0), (57, 7, 5, 1), (66, 7, 4, 0)]
def clX8_got : mCt := []
def spX8_got : mSp := mSpOf shC fdX8_got clX8_got bsX8_got 2 (some .int)
abbrev rmX8_got : Room := { frames := 0, cells := 0, slots := 0, locals := 0 }
abbrev wkX8_got : List Jvm.Cond := .code yX8_got cX8_got 4 (some .int) :: wC
set_option maxRecDepth 100000 in
set_option maxHeartbeats 4000000 in
theorem metX8_got (l : Launch) (D : va_G) (ad : Nat → Nat) (tc : Nat → ClassId) : mMet l D vwCl ad tc shC yX8_got wkX8_got rmX8_got spX8_got :=
  mMet_of (own := RX8) (ret := (some .int)) (Fd := fdX8_got) (Cl := clX8_got) (Ks := []) (Fi := [(10, 0), (47, 0), (57, 0), (66, 0)]) (Ci := []) (bs := bsX8_got) rfl (by decide +kernel) rfl (by decide +kernel)
    (List.forall_mem_cons.mpr ⟨⟨RX8, TX8, 7, rfl, by decide, fun w h => mIn (inC_X8 w h), mIn (mAt (i := 449) (by decide +kernel)), fun h => absurd h (by decide)⟩, List.forall_mem_cons.mpr ⟨⟨RX5, TX5, 9, rfl, by decide, fun w h => mIn (inC_X5 w h), mIn (mAt (i := 462) (by decide +kernel)), fun h => absurd h (by decide)⟩, List.forall_mem_cons.mpr ⟨⟨RX4, TX4, 15, rfl, by decide, fun w h => mIn (inC_X4 w h), mIn (mAt (i := 501) (by decide +kernel)), fun _ => ⟨tyX4, tyX4_ok, nmX4, rfl, by decide +kernel⟩⟩, List.forall_mem_cons.mpr ⟨⟨RX4, TX4, 15, rfl, by decide, fun w h => mIn (inC_X4 w h), mIn (mAt (i := 502) (by decide +kernel)), fun h => absurd h (by decide)⟩, fun _ h => absurd h List.not_mem_nil⟩⟩⟩⟩)
    (fun _ h => absurd h List.not_mem_nil)
    (fun _ h => absurd h List.not_mem_nil) rfl rfl (by decide +kernel) (by decide) (by decide)
-- FlashBoard.host
def bsX8_host : List mBl := [(0, [(0, .aload_n 0, [], 0, 0), (1, .getfield 10, [], 0, 0), (4, .getfield 47, [], 0, 1), (7, .iload_n 1, [], 0, 0), (8, .sipush 255, [], 255, 0), (11, .iand, [], 0, 0), (12, .invokevirtual 51, [], 0, 0), (15, .ireturn, [], 0, 0)], 16)]
def fdX8_host : mFt := [(10, 11, 0, 0), (47, 8, 3, 0)]
def clX8_host : mCt := [(51, 0, 1, 7, spX4_queue)]
def spX8_host : mSp := mSpOf shC fdX8_host clX8_host bsX8_host 2 (some .int)
abbrev rmX8_host : Room := { frames := 1, cells := 0, slots := 0, locals := 21 }
abbrev wkX8_host : List Jvm.Cond := .code yX8_host cX8_host 2 (some .int) :: wC
set_option maxRecDepth 100000 in
set_option maxHeartbeats 4000000 in
theorem metX8_host (l : Launch) (D : va_G) (ad : Nat → Nat) (tc : Nat → ClassId) : mMet l D vwCl ad tc shC yX8_host wkX8_host rmX8_host spX8_host :=
  mMet_of (own := RX8) (ret := (some .int)) (Fd := fdX8_host) (Cl := clX8_host) (Ks := []) (Fi := [(10, 0), (47, 0)]) (Ci := [(51, 0)]) (bs := bsX8_host) rfl (by decide +kernel) rfl (by decide +kernel)
    (List.forall_mem_cons.mpr ⟨⟨RX8, TX8, 7, rfl, by decide, fun w h => mIn (inC_X8 w h), mIn (mAt (i := 449) (by decide +kernel)), fun h => absurd h (by decide)⟩, List.forall_mem_cons.mpr ⟨⟨RX5, TX5, 9, rfl, by decide, fun w h => mIn (inC_X5 w h), mIn (mAt (i := 462) (by decide +kernel)), fun h => absurd h (by decide)⟩, fun _ h => absurd h List.not_mem_nil⟩⟩)
    (fun _ h => absurd h List.not_mem_nil)
    (List.forall_mem_cons.mpr ⟨Or.inl ⟨rfl, RX4, TX4, 15, yX4_queue, cX4_queue, 2, (some .int), wkX4_queue, _, rmX4_queue, rfl, mGoodV goodC (mAt (i := 504) (by decide +kernel)) (mAt (i := 505) (by decide +kernel)) (mAt (i := 506) (by decide +kernel)) (mAt (i := 89) (by decide +kernel)) (mAt (i := 388) (by decide +kernel)), rfl, rfl, rfl, by decide +kernel, by decide, metX4_queue l D ad tc⟩, fun _ h => absurd h List.not_mem_nil⟩) rfl rfl (by decide +kernel) (by decide) (by decide)
-- FlashBoard.resetBy
def bsX8_resetBy : List mBl := [(0, [(0, .aload_n 0, [], 0, 0), (1, .getfield 10, [], 0, 0), (4, .iload_n 1, [], 0, 0), (5, .invokevirtual 228, [], 0, 0), (8, .aload_n 0, [], 0, 0), (9, .getfield 21, [], 0, 1), (12, .aload_n 0, [], 0, 0), (13, .getfield 10, [], 0, 0), (16, .getfield 79, [], 0, 2), (19, .getfield 122, [], 0, 3), (22, .iconst 1, [], 1, 0), (23, .if_icmp .ne 9, [(32, 0)], 0, 0), (26, .sipush 1536, [], 1536, 0), (29, .goto 4, [(33, 0)], 0, 0)], 32),
  (32, [(32, .iconst 0, [], 0, 0)], 33),
  (33, [(33, .invokevirtual 128, [], 0, 1), (36, .return_, [], 0, 0)], 37)]
def fdX8_resetBy : mFt := [(10, 11, 0, 0), (21, 11, 1, 0), (79, 8, 1, 0), (122, 6, 5, 1)]
def clX8_resetBy : mCt := [(228, 0, 1, 8, spX5_clear), (128, 0, 1, 4, spX1_goTo)]
def spX8_resetBy : mSp := mSpOf shC fdX8_resetBy clX8_resetBy bsX8_resetBy 2 none
abbrev rmX8_resetBy : Room := { frames := 3, cells := 0, slots := 0, locals := 68 }
abbrev wkX8_resetBy : List Jvm.Cond := .code yX8_resetBy cX8_resetBy 2 none :: wC
set_option maxRecDepth 100000 in
set_option maxHeartbeats 4000000 in
theorem metX8_resetBy (l : Launch) (D : va_G) (ad : Nat → Nat) (tc : Nat → ClassId) : mMet l D vwCl ad tc shC yX8_resetBy wkX8_resetBy rmX8_resetBy spX8_resetBy :=
  mMet_of (own := RX8) (ret := none) (Fd := fdX8_resetBy) (Cl := clX8_resetBy) (Ks := []) (Fi := [(10, 0), (21, 0), (79, 0), (122, 0)]) (Ci := [(228, 0), (128, 0)]) (bs := bsX8_resetBy) rfl (by decide +kernel) rfl (by decide +kernel)
    (List.forall_mem_cons.mpr ⟨⟨RX8, TX8, 7, rfl, by decide, fun w h => mIn (inC_X8 w h), mIn (mAt (i := 449) (by decide +kernel)), fun h => absurd h (by decide)⟩, List.forall_mem_cons.mpr ⟨⟨RX8, TX8, 7, rfl, by decide, fun w h => mIn (inC_X8 w h), mIn (mAt (i := 447) (by decide +kernel)), fun h => absurd h (by decide)⟩, List.forall_mem_cons.mpr ⟨⟨RX5, TX5, 9, rfl, by decide, fun w h => mIn (inC_X5 w h), mIn (mAt (i := 455) (by decide +kernel)), fun h => absurd h (by decide)⟩, List.forall_mem_cons.mpr ⟨⟨RX3, TX3, 8, rfl, by decide, fun w h => mIn (inC_X3 w h), mIn (mAt (i := 498) (by decide +kernel)), fun _ => ⟨tyX3, tyX3_ok, nmX3, rfl, by decide +kernel⟩⟩, fun _ h => absurd h List.not_mem_nil⟩⟩⟩⟩)
    (fun _ h => absurd h List.not_mem_nil)
    (List.forall_mem_cons.mpr ⟨Or.inl ⟨rfl, RX5, TX5, 9, yX5_clear, cX5_clear, 3, none, wkX5_clear, _, rmX5_clear, rfl, mGoodV goodC (mAt (i := 508) (by decide +kernel)) (mAt (i := 509) (by decide +kernel)) (mAt (i := 510) (by decide +kernel)) (mAt (i := 77) (by decide +kernel)) (mAt (i := 392) (by decide +kernel)), rfl, rfl, rfl, by decide +kernel, by decide, metX5_clear l D ad tc⟩, List.forall_mem_cons.mpr ⟨Or.inl ⟨rfl, RX1, TX1, 8, yX1_goTo, cX1_goTo, 2, none, wkX1_goTo, _, rmX1_goTo, rfl, mGoodV goodC (mAt (i := 511) (by decide +kernel)) (mAt (i := 512) (by decide +kernel)) (mAt (i := 513) (by decide +kernel)) (mAt (i := 111) (by decide +kernel)) (mAt (i := 233) (by decide +kernel)), rfl, rfl, rfl, by decide +kernel, by decide, metX1_goTo l D ad tc⟩, fun _ h => absurd h List.not_mem_nil⟩⟩) rfl rfl (by decide +kernel) (by decide) (by decide)
-- FlashBoard.letPass
def bsX8_letPass : List mBl := [(0, [(0, .iconst 1, [], 1, 0), (1, .istore_n 2, [], 0, 0)], 2),
  (2, [(2, .iload_n 2, [], 0, 0), (3, .iload_n 1, [], 0, 0), (4, .if_icmp .gt 47, [(51, 0)], 0, 0), (7, .aload_n 0, [], 0, 0), (8, .dup, [], 0, 0), (9, .getfield 140, [], 0, 0), (12, .iconst 1, [], 1, 0), (13, .iadd, [], 0, 0), (14, .putfield 140, [], 0, 0), (17, .aload_n 0, [], 0, 0), (18, .getfield 10, [], 0, 1), (21, .invokevirtual 224, [], 0, 0), (24, .ifCond .eq 21, [(45, 0)], 0, 0), (27, .aload_n 0, [], 0, 0), (28, .dup, [], 0, 0), (29, .getfield 149, [], 0, 2), (32, .iconst 1, [], 1, 0), (33, .iadd, [], 0, 0), (34, .putfield 149, [], 0, 2), (37, .aload_n 0, [], 0, 0), (38, .bipush 8, [], 8, 0), (40, .invokevirtual 29, [], 0, 1), (43, .iload_n 2, [], 0, 0), (44, .ireturn, [], 0, 0)], 45),
  (45, [(45, .iinc 2 1, [], 1, 0), (48, .goto (-46), [(2, 0)], 0, 0)], 51),
  (51, [(51, .iload_n 1, [], 0, 0), (52, .ireturn, [], 0, 0)], 53)]
def fdX8_letPass : mFt := [(140, 11, 3, 1), (10, 11, 0, 0), (149, 11, 6, 1)]
def clX8_letPass : mCt := [(224, 0, 0, 8, spX5_cycle), (29, 0, 1, 11, spX8_resetBy)]
def spX8_letPass : mSp := mSpOf shC fdX8_letPass clX8_letPass bsX8_letPass 2 (some .int)
abbrev rmX8_letPass : Room := { frames := 4, cells := 0, slots := 0, locals := 89 }
abbrev wkX8_letPass : List Jvm.Cond := .code yX8_letPass cX8_letPass 3 (some .int) :: wC
set_option maxRecDepth 100000 in
set_option maxHeartbeats 4000000 in
theorem metX8_letPass (l : Launch) (D : va_G) (ad : Nat → Nat) (tc : Nat → ClassId) : mMet l D vwCl ad tc shC yX8_letPass wkX8_letPass rmX8_letPass spX8_letPass :=
  mMet_of (own := RX8) (ret := (some .int)) (Fd := fdX8_letPass) (Cl := clX8_letPass) (Ks := []) (Fi := [(140, 0), (10, 0), (149, 0)]) (Ci := [(224, 0), (29, 0)]) (bs := bsX8_letPass) rfl (by decide +kernel) rfl (by decide +kernel)
    (List.forall_mem_cons.mpr ⟨⟨RX8, TX8, 7, rfl, by decide, fun w h => mIn (inC_X8 w h), mIn (mAt (i := 451) (by decide +kernel)), fun _ => ⟨tyX8, tyX8_ok, nmX8, rfl, by decide +kernel⟩⟩, List.forall_mem_cons.mpr ⟨⟨RX8, TX8, 7, rfl, by decide, fun w h => mIn (inC_X8 w h), mIn (mAt (i := 449) (by decide +kernel)), fun h => absurd h (by decide)⟩, List.forall_mem_cons.mpr ⟨⟨RX8, TX8, 7, rfl, by decide, fun w h => mIn (inC_X8 w h), mIn (mAt (i := 454) (by decide +kernel)), fun _ => ⟨tyX8, tyX8_ok, nmX8, rfl, by decide +kernel⟩⟩, fun _ h => absurd h List.not_mem_nil⟩⟩⟩)
    (fun _ h => absurd h List.not_mem_nil)
    (List.forall_mem_cons.mpr ⟨Or.inl ⟨rfl, RX5, TX5, 9, yX5_cycle, cX5_cycle, 1, (some .boolean), wkX5_cycle, _, rmX5_cycle, rfl, mGoodV goodC (mAt (i := 515) (by decide +kernel)) (mAt (i := 516) (by decide +kernel)) (mAt (i := 517) (by decide +kernel)) (mAt (i := 77) (by decide +kernel)) (mAt (i := 426) (by decide +kernel)), rfl, rfl, rfl, by decide +kernel, by decide, metX5_cycle l D ad tc⟩, List.forall_mem_cons.mpr ⟨Or.inl ⟨rfl, RX8, TX8, 7, yX8_resetBy, cX8_resetBy, 2, none, wkX8_resetBy, _, rmX8_resetBy, rfl, mGoodV goodC (mAt (i := 518) (by decide +kernel)) (mAt (i := 519) (by decide +kernel)) (mAt (i := 520) (by decide +kernel)) (mAt (i := 484) (by decide +kernel)) (mAt (i := 507) (by decide +kernel)), rfl, rfl, rfl, by decide +kernel, by decide, metX8_resetBy l D ad tc⟩, fun _ h => absurd h List.not_mem_nil⟩⟩) rfl rfl (by decide +kernel) (by decide) (by decide)
-- FlashBoard.oneStep
def bsX8_oneStep : List mBl := [(0, [(0, .aload_n 0, [], 0, 0), (1, .dup, [], 0, 0), (2, .getfield 143, [], 0, 0), (5, .iconst 1, [], 1, 0), (6, .iadd, [], 0, 0), (7, .putfield 143, [], 0, 0), (10, .aload_n 0, [], 0, 0), (11, .getfield 21, [], 0, 1), (14, .invokevirtual 204, [], 0, 0), (17, .istore_n 1, [], 0, 0), (18, .aload_n 0, [], 0, 0), (19, .getfield 21, [], 0, 1), (22, .getfield 137, [], 0, 2), (25, .ifCond .eq 13, [(38, 0)], 0, 0), (28, .iload_n 1, [], 0, 0), (29, .ifCond .ne 9, [(38, 0)], 0, 0), (32, .aload_n 0, [], 0, 0), (33, .iconst 1, [], 1, 0), (34, .invokevirtual 209, [], 0, 1), (37, .ireturn, [], 0, 0)], 38),
  (38, [(38, .iload_n 1, [], 0, 0), (39, .ifCond .eq 37, [(76, 0)], 0, 0), (42, .aload_n 0, [], 0, 0), (43, .getfield 21, [], 0, 1), (46, .getfield 212, [], 0, 3), (49, .ifCond .ne 27, [(76, 0)], 0, 0), (52, .aload_n 0, [], 0, 0), (53, .dup, [], 0, 0), (54, .getfield 146, [], 0, 4), (57, .iconst 1, [], 1, 0), (58, .iadd, [], 0, 0), (59, .putfield 146, [], 0, 4), (62, .aload_n 0, [], 0, 0), (63, .getfield 21, [], 0, 1), (66, .iload_n 1, [], 0, 0), (67, .invokevirtual 215, [], 0, 2), (70, .aload_n 0, [], 0, 0), (71, .iconst 4, [], 4, 0), (72, .invokevirtual 209, [], 0, 1), (75, .ireturn, [], 0, 0)], 76),
  (76, [(76, .aload_n 0, [], 0, 0), (77, .getfield 21, [], 0, 1), (80, .invokevirtual 218, [], 0, 3), (83, .istore_n 2, [], 0, 0), (84, .aload_n 0, [], 0, 0), (85, .iload_n 2, [], 0, 0), (86, .aload_n 0, [], 0, 0), (87, .getfield 10, [], 0, 5), (90, .getfield 221, [], 0, 6), (93, .iadd, [], 0, 0), (94, .invokevirtual 209, [], 0, 1), (97, .ireturn, [], 0, 0)], 98)]
def fdX8_oneStep : mFt := [(143, 11, 4, 1), (21, 11, 1, 0), (137, 4, 5, 2), (212, 4, 6, 2), (146, 11, 5, 1), (10, 11, 0, 0), (221, 8, 8, 1)]
def clX8_oneStep : mCt := [(204, 0, 0, 4, spX1_waitingInterrupt), (209, 0, 1, 11, spX8_letPass), (215, 0, 1, 4, spX1_enter), (218, 0, 0, 4, spX1_instruction)]
def spX8_oneStep : mSp := mSpOf shC fdX8_oneStep clX8_oneStep bsX8_oneStep 1 (some .int)
abbrev rmX8_oneStep : Room := { frames := 6, cells := 0, slots := 0, locals := 136 }
abbrev wkX8_oneStep : List Jvm.Cond := .code yX8_oneStep cX8_oneStep 3 (some .int) :: wC
set_option maxRecDepth 100000 in
set_option maxHeartbeats 4000000 in
theorem metX8_oneStep (l : Launch) (D : va_G) (ad : Nat → Nat) (tc : Nat → ClassId) : mMet l D vwCl ad tc shC yX8_oneStep wkX8_oneStep rmX8_oneStep spX8_oneStep :=
  mMet_of (own := RX8) (ret := (some .int)) (Fd := fdX8_oneStep) (Cl := clX8_oneStep) (Ks := []) (Fi := [(143, 0), (21, 0), (137, 0), (212, 0), (146, 0), (10, 0), (221, 0)]) (Ci := [(204, 0), (209, 0), (215, 0), (218, 0)]) (bs := bsX8_oneStep) rfl (by decide +kernel) rfl (by decide +kernel)
    (List.forall_mem_cons.mpr ⟨⟨RX8, TX8, 7, rfl, by decide, fun w h => mIn (inC_X8 w h), mIn (mAt (i := 452) (by decide +kernel)), fun _ => ⟨tyX8, tyX8_ok, nmX8, rfl, by decide +kernel⟩⟩, List.forall_mem_cons.mpr ⟨⟨RX8, TX8, 7, rfl, by decide, fun w h => mIn (inC_X8 w h), mIn (mAt (i := 447) (by decide +kernel)), fun h => absurd h (by decide)⟩, List.forall_mem_cons.mpr ⟨⟨RX1, TX1, 8, rfl, by decide, fun w h => mIn (inC_X1 w h), mIn (mAt (i := 450) (by decide +kernel)), fun _ => ⟨tyX1, tyX1_ok, nmX1, rfl, by decide +kernel⟩⟩, List.forall_mem_cons.mpr ⟨⟨RX1, TX1, 8, rfl, by decide, fun w h => mIn (inC_X1 w h), mIn (mAt (i := 522) (by decide +kernel)), fun _ => ⟨tyX1, tyX1_ok, nmX1, rfl, by decide +kernel⟩⟩, List.forall_mem_cons.mpr ⟨⟨RX8, TX8, 7, rfl, by decide, fun w h => mIn (inC_X8 w h), mIn (mAt (i := 453) (by decide +kernel)), fun _ => ⟨tyX8, tyX8_ok, nmX8, rfl, by decide +kernel⟩⟩, List.forall_mem_cons.mpr ⟨⟨RX8, TX8, 7, rfl, by decide, fun w h => mIn (inC_X8 w h), mIn (mAt (i := 449) (by decide +kernel)), fun h => absurd h (by decide)⟩, List.forall_mem_cons.mpr ⟨⟨RX5, TX5, 9, rfl, by decide, fun w h => mIn (inC_X5 w h), mIn (mAt (i := 523) (by decide +kernel)), fun _ => ⟨tyX5, tyX5_ok, nmX5, rfl, by decide +kernel⟩⟩, fun _ h => absurd h List.not_mem_nil⟩⟩⟩⟩⟩⟩⟩)
    (fun _ h => absurd h List.not_mem_nil)
    (List.forall_mem_cons.mpr ⟨Or.inl ⟨rfl, RX1, TX1, 8, yX1_waitingInterrupt, cX1_waitingInterrupt, 3, (some .int), wkX1_waitingInterrupt, _, rmX1_waitingInterrupt, rfl, mGoodV goodC (mAt (i := 478) (by decide +kernel)) (mAt (i := 479) (by decide +kernel)) (mAt (i := 480) (by decide +kernel)) (mAt (i := 111) (by decide +kernel)) (mAt (i := 358) (by decide +kernel)), rfl, rfl, rfl, by decide +kernel, by decide, metX1_waitingInterrupt l D ad tc⟩, List.forall_mem_cons.mpr ⟨Or.inl ⟨rfl, RX8, TX8, 7, yX8_letPass, cX8_letPass, 3, (some .int), wkX8_letPass, _, rmX8_letPass, rfl, mGoodV goodC (mAt (i := 524) (by decide +kernel)) (mAt (i := 525) (by decide +kernel)) (mAt (i := 526) (by decide +kernel)) (mAt (i := 484) (by decide +kernel)) (mAt (i := 514) (by decide +kernel)), rfl, rfl, rfl, by decide +kernel, by decide, metX8_letPass l D ad tc⟩, List.forall_mem_cons.mpr ⟨Or.inl ⟨rfl, RX1, TX1, 8, yX1_enter, cX1_enter, 2, none, wkX1_enter, _, rmX1_enter, rfl, mGoodV goodC (mAt (i := 527) (by decide +kernel)) (mAt (i := 528) (by decide +kernel)) (mAt (i := 529) (by decide +kernel)) (mAt (i := 111) (by decide +kernel)) (mAt (i := 232) (by decide +kernel)), rfl, rfl, rfl, by decide +kernel, by decide, metX1_enter l D ad tc⟩, List.forall_mem_cons.mpr ⟨Or.inl ⟨rfl, RX1, TX1, 8, yX1_instruction, cX1_instruction, 2, (some .int), wkX1_instruction, _, rmX1_instruction, rfl, mGoodV goodC (mAt (i := 530) (by decide +kernel)) (mAt (i := 531) (by decide +kernel)) (mAt (i := 532) (by decide +kernel)) (mAt (i := 111) (by decide +kernel)) (mAt (i := 304) (by decide +kernel)), rfl, rfl, rfl, by decide +kernel, by decide, metX1_instruction l D ad tc⟩, fun _ h => absurd h List.not_mem_nil⟩⟩⟩⟩) rfl rfl (by decide +kernel) (by decide) (by decide)
-- FlashBoard.pass
def bsX8_pass : List mBl := [(0, [(0, .iload_n 1, [], 0, 0), (1, .iconst 1, [], 1, 0), (2, .if_icmp .lt 9, [(11, 0)], 0, 0), (5, .iload_n 1, [], 0, 0), (6, .ldc 44, [], 200000, 0), (8, .if_icmp .le 13, [(21, 0)], 0, 0)], 11),
  (21, [(21, .aload_n 0, [], 0, 0), (22, .getfield 25, [], 0, 0), (25, .ifCond .ne 5, [(30, 0)], 0, 0), (28, .iconst 0, [], 0, 0), (29, .ireturn, [], 0, 0)], 30),
  (30, [(30, .iconst 0, [], 0, 0), (31, .istore_n 2, [], 0, 0), (32, .iconst 0, [], 0, 0), (33, .istore_n 3, [], 0, 0)], 34),
  (34, [(34, .iload_n 3, [], 0, 0), (35, .iload_n 1, [], 0, 0), (36, .if_icmp .ge 21, [(57, 0)], 0, 0), (39, .iload_n 2, [], 0, 0), (40, .iload_n 1, [], 0, 0), (41, .if_icmp .ge 16, [(57, 0)], 0, 0), (44, .iload_n 2, [], 0, 0), (45, .aload_n 0, [], 0, 0), (46, .invokevirtual 33, [], 0, 0), (49, .iadd, [], 0, 0), (50, .istore_n 2, [], 0, 0), (51, .iinc 3 1, [], 1, 0), (54, .goto (-20), [(34, 0)], 0, 0)], 57),
  (57, [(57, .iload_n 2, [], 0, 0), (58, .ireturn, [], 0, 0)], 59)]
def fdX8_pass : mFt := [(25, 11, 2, 2)]
def clX8_pass : mCt := [(33, 0, 0, 11, spX8_oneStep)]
def spX8_pass : mSp := mSpOf shC fdX8_pass clX8_pass bsX8_pass 2 (some .int)
abbrev rmX8_pass : Room := { frames := 7, cells := 0, slots := 0, locals := 158 }
abbrev wkX8_pass : List Jvm.Cond := .code yX8_pass cX8_pass 4 (some .int) :: wC
set_option maxRecDepth 100000 in
set_option maxHeartbeats 4000000 in
theorem metX8_pass (l : Launch) (D : va_G) (ad : Nat → Nat) (tc : Nat → ClassId) : mMet l D vwCl ad tc shC yX8_pass wkX8_pass rmX8_pass spX8_pass :=
  mMet_of (own := RX8) (ret := (some .int)) (Fd := fdX8_pass) (Cl := clX8_pass) (Ks := [(44, 200000)]) (Fi := [(25, 0)]) (Ci := [(33, 0)]) (bs := bsX8_pass) rfl (by decide +kernel) rfl (by decide +kernel)
    (List.forall_mem_cons.mpr ⟨⟨RX8, TX8, 7, rfl, by decide, fun w h => mIn (inC_X8 w h), mIn (mAt (i := 473) (by decide +kernel)), fun _ => ⟨tyX8, tyX8_ok, nmX8, rfl, by decide +kernel⟩⟩, fun _ h => absurd h List.not_mem_nil⟩)
    (List.forall_mem_cons.mpr ⟨mIn (mAt (i := 534) (by decide +kernel)), fun _ h => absurd h List.not_mem_nil⟩)
    (List.forall_mem_cons.mpr ⟨Or.inl ⟨rfl, RX8, TX8, 7, yX8_oneStep, cX8_oneStep, 3, (some .int), wkX8_oneStep, _, rmX8_oneStep, rfl, mGoodV goodC (mAt (i := 535) (by decide +kernel)) (mAt (i := 536) (by decide +kernel)) (mAt (i := 537) (by decide +kernel)) (mAt (i := 484) (by decide +kernel)) (mAt (i := 521) (by decide +kernel)), rfl, rfl, rfl, by decide +kernel, by decide, metX8_oneStep l D ad tc⟩, fun _ h => absurd h List.not_mem_nil⟩) rfl rfl (by decide +kernel) (by decide) (by decide)
-- FlashBoard.pins
def bsX8_pins : List mBl := [(0, [(0, .aload_n 0, [], 0, 0), (1, .getfield 10, [], 0, 0), (4, .getfield 119, [], 0, 1), (7, .istore_n 2, [], 0, 0), (8, .aload_n 0, [], 0, 0), (9, .getfield 10, [], 0, 0), (12, .iload_n 1, [], 0, 0), (13, .sipush 255, [], 255, 0), (16, .iand, [], 0, 0), (17, .putfield 119, [], 0, 1), (20, .iload_n 2, [], 0, 0), (21, .ireturn, [], 0, 0)], 22)]
def fdX8_pins : mFt := [(10, 11, 0, 0), (119, 8, 6, 1)]
def clX8_pins : mCt := []
def spX8_pins : mSp := mSpOf shC fdX8_pins clX8_pins bsX8_pins 2 (some .int)
abbrev rmX8_pins : Room := { frames := 0, cells := 0, slots := 0, locals := 0 }
abbrev wkX8_pins : List Jvm.Cond := .code yX8_pins cX8_pins 3 (some .int) :: wC
set_option maxRecDepth 100000 in
set_option maxHeartbeats 4000000 in
theorem metX8_pins (l : Launch) (D : va_G) (ad : Nat → Nat) (tc : Nat → ClassId) : mMet l D vwCl ad tc shC yX8_pins wkX8_pins rmX8_pins spX8_pins :=
  mMet_of (own := RX8) (ret := (some .int)) (Fd := fdX8_pins) (Cl := clX8_pins) (Ks := []) (Fi := [(10, 0), (119, 0)]) (Ci := []) (bs := bsX8_pins) rfl (by decide +kernel) rfl (by decide +kernel)
    (List.forall_mem_cons.mpr ⟨⟨RX8, TX8, 7, rfl, by decide, fun w h => mIn (inC_X8 w h), mIn (mAt (i := 449) (by decide +kernel)), fun h => absurd h (by decide)⟩, List.forall_mem_cons.mpr ⟨⟨RX5, TX5, 9, rfl, by decide, fun w h => mIn (inC_X5 w h), mIn (mAt (i := 539) (by decide +kernel)), fun _ => ⟨tyX5, tyX5_ok, nmX5, rfl, by decide +kernel⟩⟩, fun _ h => absurd h List.not_mem_nil⟩⟩)
    (fun _ h => absurd h List.not_mem_nil)
    (fun _ h => absurd h List.not_mem_nil) rfl rfl (by decide +kernel) (by decide) (by decide)
-- FlashBoard.power
def bsX8_power : List mBl := [(0, [(0, .aload_n 0, [], 0, 0), (1, .getfield 25, [], 0, 0), (4, .istore_n 2, [], 0, 0), (5, .aload_n 0, [], 0, 0), (6, .iload_n 1, [], 0, 0), (7, .putfield 25, [], 0, 0), (10, .iload_n 1, [], 0, 0), (11, .ifCond .eq 12, [(23, 0)], 0, 0), (14, .iload_n 2, [], 0, 0), (15, .ifCond .ne 8, [(23, 0)], 0, 0), (18, .aload_n 0, [], 0, 0), (19, .iconst 1, [], 1, 0), (20, .invokevirtual 29, [], 0, 0)], 23),
  (23, [(23, .iload_n 2, [], 0, 0), (24, .ireturn, [], 0, 0)], 25)]
def fdX8_power : mFt := [(25, 11, 2, 2)]
def clX8_power : mCt := [(29, 0, 1, 11, spX8_resetBy)]
def spX8_power : mSp := mSpOf shC fdX8_power clX8_power bsX8_power 2 (some .boolean)
abbrev rmX8_power : Room := { frames := 4, cells := 0, slots := 0, locals := 89 }
abbrev wkX8_power : List Jvm.Cond := .code yX8_power cX8_power 3 (some .boolean) :: wC
set_option maxRecDepth 100000 in
set_option maxHeartbeats 4000000 in
theorem metX8_power (l : Launch) (D : va_G) (ad : Nat → Nat) (tc : Nat → ClassId) : mMet l D vwCl ad tc shC yX8_power wkX8_power rmX8_power spX8_power :=
  mMet_of (own := RX8) (ret := (some .boolean)) (Fd := fdX8_power) (Cl := clX8_power) (Ks := []) (Fi := [(25, 0)]) (Ci := [(29, 0)]) (bs := bsX8_power) rfl (by decide +kernel) rfl (by decide +kernel)
    (List.forall_mem_cons.mpr ⟨⟨RX8, TX8, 7, rfl, by decide, fun w h => mIn (inC_X8 w h), mIn (mAt (i := 473) (by decide +kernel)), fun _ => ⟨tyX8, tyX8_ok, nmX8, rfl, by decide +kernel⟩⟩, fun _ h => absurd h List.not_mem_nil⟩)
    (fun _ h => absurd h List.not_mem_nil)
    (List.forall_mem_cons.mpr ⟨Or.inl ⟨rfl, RX8, TX8, 7, yX8_resetBy, cX8_resetBy, 2, none, wkX8_resetBy, _, rmX8_resetBy, rfl, mGoodV goodC (mAt (i := 518) (by decide +kernel)) (mAt (i := 519) (by decide +kernel)) (mAt (i := 520) (by decide +kernel)) (mAt (i := 484) (by decide +kernel)) (mAt (i := 507) (by decide +kernel)), rfl, rfl, rfl, by decide +kernel, by decide, metX8_resetBy l D ad tc⟩, fun _ h => absurd h List.not_mem_nil⟩) rfl rfl (by decide +kernel) (by decide) (by decide)
-- FlashBoard.put
def bsX8_put : List mBl := [(0, [(0, .iload_n 1, [], 0, 0), (1, .invokestatic 100, [], 0, 0), (4, .ifCond .ne 13, [(17, 0)], 0, 0)], 7),
  (17, [(17, .aload_n 0, [], 0, 0), (18, .getfield 10, [], 0, 0), (21, .getfield 105, [], 0, 1), (24, .iload_n 1, [], 0, 0), (25, .iload_n 2, [], 0, 0), (26, .sipush 255, [], 255, 0), (29, .iand, [], 0, 0), (30, .iastore, [], 0, 0), (31, .return_, [], 0, 0)], 32)]
def fdX8_put : mFt := [(10, 11, 0, 0), (105, 8, 0, 0)]
def clX8_put : mCt := [(100, 1, 1, 0, spX8_canBePut)]
def spX8_put : mSp := mSpOf shC fdX8_put clX8_put bsX8_put 3 none
abbrev rmX8_put : Room := { frames := 1, cells := 0, slots := 0, locals := 20 }
abbrev wkX8_put : List Jvm.Cond := .code yX8_put cX8_put 3 none :: wC
set_option maxRecDepth 100000 in
set_option maxHeartbeats 4000000 in
theorem metX8_put (l : Launch) (D : va_G) (ad : Nat → Nat) (tc : Nat → ClassId) : mMet l D vwCl ad tc shC yX8_put wkX8_put rmX8_put spX8_put :=
  mMet_of (own := RX8) (ret := none) (Fd := fdX8_put) (Cl := clX8_put) (Ks := []) (Fi := [(10, 0), (105, 0)]) (Ci := [(100, 1)]) (bs := bsX8_put) rfl (by decide +kernel) rfl (by decide +kernel)
    (List.forall_mem_cons.mpr ⟨⟨RX8, TX8, 7, rfl, by decide, fun w h => mIn (inC_X8 w h), mIn (mAt (i := 449) (by decide +kernel)), fun h => absurd h (by decide)⟩, List.forall_mem_cons.mpr ⟨⟨RX5, TX5, 9, rfl, by decide, fun w h => mIn (inC_X5 w h), mIn (mAt (i := 542) (by decide +kernel)), fun h => absurd h (by decide)⟩, fun _ h => absurd h List.not_mem_nil⟩⟩)
    (fun _ h => absurd h List.not_mem_nil)
    (List.forall_mem_cons.mpr ⟨Or.inr ⟨rfl, yX8_canBePut, cX8_canBePut, 1, (some .boolean), wkX8_canBePut, _, rmX8_canBePut, mGoodS goodC (mAt (i := 543) (by decide +kernel)) (mAt (i := 544) (by decide +kernel)) (mAt (i := 484) (by decide +kernel)) (mAt (i := 489) (by decide +kernel)), rfl, rfl, rfl, by decide +kernel, by decide, metX8_canBePut l D ad tc⟩, fun _ h => absurd h List.not_mem_nil⟩) rfl rfl (by decide +kernel) (by decide) (by decide)
-- FlashBoard.reset
def bsX8_reset : List mBl := [(0, [(0, .aload_n 0, [], 0, 0), (1, .getfield 25, [], 0, 0), (4, .ifCond .eq 8, [(12, 0)], 0, 0), (7, .aload_n 0, [], 0, 0), (8, .iconst 2, [], 2, 0), (9, .invokevirtual 29, [], 0, 0)], 12),
  (12, [(12, .return_, [], 0, 0)], 13)]
def fdX8_reset : mFt := [(25, 11, 2, 2)]
def clX8_reset : mCt := [(29, 0, 1, 11, spX8_resetBy)]
def spX8_reset : mSp := mSpOf shC fdX8_reset clX8_reset bsX8_reset 1 none
abbrev rmX8_reset : Room := { frames := 4, cells := 0, slots := 0, locals := 89 }
abbrev wkX8_reset : List Jvm.Cond := .code yX8_reset cX8_reset 1 none :: wC
set_option maxRecDepth 100000 in
set_option maxHeartbeats 4000000 in
theorem metX8_reset (l : Launch) (D : va_G) (ad : Nat → Nat) (tc : Nat → ClassId) : mMet l D vwCl ad tc shC yX8_reset wkX8_reset rmX8_reset spX8_reset :=
  mMet_of (own := RX8) (ret := none) (Fd := fdX8_reset) (Cl := clX8_reset) (Ks := []) (Fi := [(25, 0)]) (Ci := [(29, 0)]) (bs := bsX8_reset) rfl (by decide +kernel) rfl (by decide +kernel)
    (List.forall_mem_cons.mpr ⟨⟨RX8, TX8, 7, rfl, by decide, fun w h => mIn (inC_X8 w h), mIn (mAt (i := 473) (by decide +kernel)), fun _ => ⟨tyX8, tyX8_ok, nmX8, rfl, by decide +kernel⟩⟩, fun _ h => absurd h List.not_mem_nil⟩)
    (fun _ h => absurd h List.not_mem_nil)
    (List.forall_mem_cons.mpr ⟨Or.inl ⟨rfl, RX8, TX8, 7, yX8_resetBy, cX8_resetBy, 2, none, wkX8_resetBy, _, rmX8_resetBy, rfl, mGoodV goodC (mAt (i := 518) (by decide +kernel)) (mAt (i := 519) (by decide +kernel)) (mAt (i := 520) (by decide +kernel)) (mAt (i := 484) (by decide +kernel)) (mAt (i := 507) (by decide +kernel)), rfl, rfl, rfl, by decide +kernel, by decide, metX8_resetBy l D ad tc⟩, fun _ h => absurd h List.not_mem_nil⟩) rfl rfl (by decide +kernel) (by decide) (by decide)
-- FlashBoard.run
def bsX8_run : List mBl := [(0, [(0, .iload_n 1, [], 0, 0), (1, .iconst 1, [], 1, 0), (2, .if_icmp .lt 10, [(12, 0)], 0, 0), (5, .iload_n 1, [], 0, 0), (6, .sipush 5000, [], 5000, 0), (9, .if_icmp .le 13, [(22, 0)], 0, 0)], 12),
  (22, [(22, .aload_n 0, [], 0, 0), (23, .getfield 25, [], 0, 0), (26, .ifCond .ne 5, [(31, 0)], 0, 0), (29, .iconst 0, [], 0, 0), (30, .ireturn, [], 0, 0)], 31),
  (31, [(31, .iconst 0, [], 0, 0), (32, .istore_n 2, [], 0, 0), (33, .iconst 0, [], 0, 0), (34, .istore_n 3, [], 0, 0)], 35),
  (35, [(35, .iload_n 3, [], 0, 0), (36, .iload_n 1, [], 0, 0), (37, .if_icmp .ge 16, [(53, 0)], 0, 0), (40, .iload_n 2, [], 0, 0), (41, .aload_n 0, [], 0, 0), (42, .invokevirtual 33, [], 0, 0), (45, .iadd, [], 0, 0), (46, .istore_n 2, [], 0, 0), (47, .iinc 3 1, [], 1, 0), (50, .goto (-15), [(35, 0)], 0, 0)], 53),
  (53, [(53, .iload_n 2, [], 0, 0), (54, .ireturn, [], 0, 0)], 55)]
def fdX8_run : mFt := [(25, 11, 2, 2)]
def clX8_run : mCt := [(33, 0, 0, 11, spX8_oneStep)]
def spX8_run : mSp := mSpOf shC fdX8_run clX8_run bsX8_run 2 (some .int)
abbrev rmX8_run : Room := { frames := 7, cells := 0, slots := 0, locals := 158 }
abbrev wkX8_run : List Jvm.Cond := .code yX8_run cX8_run 4 (some .int) :: wC
set_option maxRecDepth 100000 in
set_option maxHeartbeats 4000000 in
theorem metX8_run (l : Launch) (D : va_G) (ad : Nat → Nat) (tc : Nat → ClassId) : mMet l D vwCl ad tc shC yX8_run wkX8_run rmX8_run spX8_run :=
  mMet_of (own := RX8) (ret := (some .int)) (Fd := fdX8_run) (Cl := clX8_run) (Ks := []) (Fi := [(25, 0)]) (Ci := [(33, 0)]) (bs := bsX8_run) rfl (by decide +kernel) rfl (by decide +kernel)
    (List.forall_mem_cons.mpr ⟨⟨RX8, TX8, 7, rfl, by decide, fun w h => mIn (inC_X8 w h), mIn (mAt (i := 473) (by decide +kernel)), fun _ => ⟨tyX8, tyX8_ok, nmX8, rfl, by decide +kernel⟩⟩, fun _ h => absurd h List.not_mem_nil⟩)
    (fun _ h => absurd h List.not_mem_nil)
    (List.forall_mem_cons.mpr ⟨Or.inl ⟨rfl, RX8, TX8, 7, yX8_oneStep, cX8_oneStep, 3, (some .int), wkX8_oneStep, _, rmX8_oneStep, rfl, mGoodV goodC (mAt (i := 535) (by decide +kernel)) (mAt (i := 536) (by decide +kernel)) (mAt (i := 537) (by decide +kernel)) (mAt (i := 484) (by decide +kernel)) (mAt (i := 521) (by decide +kernel)), rfl, rfl, rfl, by decide +kernel, by decide, metX8_oneStep l D ad tc⟩, fun _ h => absurd h List.not_mem_nil⟩) rfl rfl (by decide +kernel) (by decide) (by decide)
-- FlashBoard.sent
def bsX8_sent : List mBl := [(0, [(0, .aload_n 0, [], 0, 0), (1, .getfield 10, [], 0, 0), (4, .getfield 47, [], 0, 1), (7, .getfield 57, [], 0, 2), (10, .ireturn, [], 0, 0)], 11)]
def fdX8_sent : mFt := [(10, 11, 0, 0), (47, 8, 3, 0), (57, 7, 5, 1)]
def clX8_sent : mCt := []
def spX8_sent : mSp := mSpOf shC fdX8_sent clX8_sent bsX8_sent 1 (some .int)
abbrev rmX8_sent : Room := { frames := 0, cells := 0, slots := 0, locals := 0 }
abbrev wkX8_sent : List Jvm.Cond := .code yX8_sent cX8_sent 1 (some .int) :: wC
set_option maxRecDepth 100000 in
set_option maxHeartbeats 4000000 in
theorem metX8_sent (l : Launch) (D : va_G) (ad : Nat → Nat) (tc : Nat → ClassId) : mMet l D vwCl ad tc shC yX8_sent wkX8_sent rmX8_sent spX8_sent :=
  mMet_of (own := RX8) (ret := (some .int)) (Fd := fdX8_sent) (Cl := clX8_sent) (Ks := []) (Fi := [(10, 0), (47, 0), (57, 0)]) (Ci := []) (bs := bsX8_sent) rfl (by decide +kernel) rfl (by decide +kernel)
    (List.forall_mem_cons.mpr ⟨⟨RX8, TX8, 7, rfl, by decide, fun w h => mIn (inC_X8 w h), mIn (mAt (i := 449) (by decide +kernel)), fun h => absurd h (by decide)⟩, List.forall_mem_cons.mpr ⟨⟨RX5, TX5, 9, rfl, by decide, fun w h => mIn (inC_X5 w h), mIn (mAt (i := 462) (by decide +kernel)), fun h => absurd h (by decide)⟩, List.forall_mem_cons.mpr ⟨⟨RX4, TX4, 15, rfl, by decide, fun w h => mIn (inC_X4 w h), mIn (mAt (i := 501) (by decide +kernel)), fun _ => ⟨tyX4, tyX4_ok, nmX4, rfl, by decide +kernel⟩⟩, fun _ h => absurd h List.not_mem_nil⟩⟩⟩)
    (fun _ h => absurd h List.not_mem_nil)
    (fun _ h => absurd h List.not_mem_nil) rfl rfl (by decide +kernel) (by decide) (by decide)
-- FlashBoard.start
def bsX8_start : List mBl := [(0, [(0, .iload_n 1, [], 0, 0), (1, .invokestatic 70, [], 0, 0), (4, .ifCond .ne 13, [(17, 0)], 0, 0)], 7),
  (17, [(17, .aload_n 0, [], 0, 0), (18, .getfield 21, [], 0, 0), (21, .iload_n 1, [], 0, 0), (22, .invokevirtual 128, [], 0, 1), (25, .return_, [], 0, 0)], 26)]
def fdX8_start : mFt := [(21, 11, 1, 0)]
def clX8_start : mCt := [(70, 1, 1, 0, spX8_inFlash), (128, 0, 1, 4, spX1_goTo)]
def spX8_start : mSp := mSpOf shC fdX8_start clX8_start bsX8_start 2 none
abbrev rmX8_start : Room := { frames := 1, cells := 0, slots := 0, locals := 21 }
abbrev wkX8_start : List Jvm.Cond := .code yX8_start cX8_start 2 none :: wC
set_option maxRecDepth 100000 in
set_option maxHeartbeats 4000000 in
theorem metX8_start (l : Launch) (D : va_G) (ad : Nat → Nat) (tc : Nat → ClassId) : mMet l D vwCl ad tc shC yX8_start wkX8_start rmX8_start spX8_start :=
  mMet_of (own := RX8) (ret := none) (Fd := fdX8_start) (Cl := clX8_start) (Ks := []) (Fi := [(21, 0)]) (Ci := [(70, 1), (128, 0)]) (bs := bsX8_start) rfl (by decide +kernel) rfl (by decide +kernel)
    (List.forall_mem_cons.mpr ⟨⟨RX8, TX8, 7, rfl, by decide, fun w h => mIn (inC_X8 w h), mIn (mAt (i := 447) (by decide +kernel)), fun h => absurd h (by decide)⟩, fun _ h => absurd h List.not_mem_nil⟩)
    (fun _ h => absurd h List.not_mem_nil)
    (List.forall_mem_cons.mpr ⟨Or.inr ⟨rfl, yX8_inFlash, cX8_inFlash, 1, (some .boolean), wkX8_inFlash, _, rmX8_inFlash, mGoodS goodC (mAt (i := 483) (by decide +kernel)) (mAt (i := 485) (by decide +kernel)) (mAt (i := 484) (by decide +kernel)) (mAt (i := 481) (by decide +kernel)), rfl, rfl, rfl, by decide +kernel, by decide, metX8_inFlash l D ad tc⟩, List.forall_mem_cons.mpr ⟨Or.inl ⟨rfl, RX1, TX1, 8, yX1_goTo, cX1_goTo, 2, none, wkX1_goTo, _, rmX1_goTo, rfl, mGoodV goodC (mAt (i := 511) (by decide +kernel)) (mAt (i := 512) (by decide +kernel)) (mAt (i := 513) (by decide +kernel)) (mAt (i := 111) (by decide +kernel)) (mAt (i := 233) (by decide +kernel)), rfl, rfl, rfl, by decide +kernel, by decide, metX1_goTo l D ad tc⟩, fun _ h => absurd h List.not_mem_nil⟩⟩) rfl rfl (by decide +kernel) (by decide) (by decide)
-- FlashBoard.step
def bsX8_step : List mBl := [(0, [(0, .aload_n 0, [], 0, 0), (1, .getfield 25, [], 0, 0), (4, .ifCond .eq 10, [(14, 0)], 0, 0), (7, .aload_n 0, [], 0, 0), (8, .invokevirtual 33, [], 0, 0), (11, .goto 4, [(15, 0)], 0, 0)], 14),
  (14, [(14, .iconst 0, [], 0, 0)], 15),
  (15, [(15, .ireturn, [], 0, 0)], 16)]
def fdX8_step : mFt := [(25, 11, 2, 2)]
def clX8_step : mCt := [(33, 0, 0, 11, spX8_oneStep)]
def spX8_step : mSp := mSpOf shC fdX8_step clX8_step bsX8_step 1 (some .int)
abbrev rmX8_step : Room := { frames := 7, cells := 0, slots := 0, locals := 158 }
abbrev wkX8_step : List Jvm.Cond := .code yX8_step cX8_step 1 (some .int) :: wC
set_option maxRecDepth 100000 in
set_option maxHeartbeats 4000000 in
theorem metX8_step (l : Launch) (D : va_G) (ad : Nat → Nat) (tc : Nat → ClassId) : mMet l D vwCl ad tc shC yX8_step wkX8_step rmX8_step spX8_step :=
  mMet_of (own := RX8) (ret := (some .int)) (Fd := fdX8_step) (Cl := clX8_step) (Ks := []) (Fi := [(25, 0)]) (Ci := [(33, 0)]) (bs := bsX8_step) rfl (by decide +kernel) rfl (by decide +kernel)
    (List.forall_mem_cons.mpr ⟨⟨RX8, TX8, 7, rfl, by decide, fun w h => mIn (inC_X8 w h), mIn (mAt (i := 473) (by decide +kernel)), fun _ => ⟨tyX8, tyX8_ok, nmX8, rfl, by decide +kernel⟩⟩, fun _ h => absurd h List.not_mem_nil⟩)
    (fun _ h => absurd h List.not_mem_nil)
    (List.forall_mem_cons.mpr ⟨Or.inl ⟨rfl, RX8, TX8, 7, yX8_oneStep, cX8_oneStep, 3, (some .int), wkX8_oneStep, _, rmX8_oneStep, rfl, mGoodV goodC (mAt (i := 535) (by decide +kernel)) (mAt (i := 536) (by decide +kernel)) (mAt (i := 537) (by decide +kernel)) (mAt (i := 484) (by decide +kernel)) (mAt (i := 521) (by decide +kernel)), rfl, rfl, rfl, by decide +kernel, by decide, metX8_oneStep l D ad tc⟩, fun _ h => absurd h List.not_mem_nil⟩) rfl rfl (by decide +kernel) (by decide) (by decide)
-- FlashBoard.word
def bsX8_word : List mBl := [(0, [(0, .iload_n 1, [], 0, 0), (1, .invokestatic 70, [], 0, 0), (4, .ifCond .ne 13, [(17, 0)], 0, 0)], 7),
  (17, [(17, .aload_n 0, [], 0, 0), (18, .getfield 10, [], 0, 0), (21, .getfield 79, [], 0, 1), (24, .getfield 89, [], 0, 2), (27, .iload_n 1, [], 0, 0), (28, .iaload, [], 0, 0), (29, .ireturn, [], 0, 0)], 30)]
def fdX8_word : mFt := [(10, 11, 0, 0), (79, 8, 1, 0), (89, 6, 0, 0)]
def clX8_word : mCt := [(70, 1, 1, 0, spX8_inFlash)]
def spX8_word : mSp := mSpOf shC fdX8_word clX8_word bsX8_word 2 (some .int)
abbrev rmX8_word : Room := { frames := 1, cells := 0, slots := 0, locals := 20 }
abbrev wkX8_word : List Jvm.Cond := .code yX8_word cX8_word 2 (some .int) :: wC
set_option maxRecDepth 100000 in
set_option maxHeartbeats 4000000 in
theorem metX8_word (l : Launch) (D : va_G) (ad : Nat → Nat) (tc : Nat → ClassId) : mMet l D vwCl ad tc shC yX8_word wkX8_word rmX8_word spX8_word :=
  mMet_of (own := RX8) (ret := (some .int)) (Fd := fdX8_word) (Cl := clX8_word) (Ks := []) (Fi := [(10, 0), (79, 0), (89, 0)]) (Ci := [(70, 1)]) (bs := bsX8_word) rfl (by decide +kernel) rfl (by decide +kernel)
    (List.forall_mem_cons.mpr ⟨⟨RX8, TX8, 7, rfl, by decide, fun w h => mIn (inC_X8 w h), mIn (mAt (i := 449) (by decide +kernel)), fun h => absurd h (by decide)⟩, List.forall_mem_cons.mpr ⟨⟨RX5, TX5, 9, rfl, by decide, fun w h => mIn (inC_X5 w h), mIn (mAt (i := 455) (by decide +kernel)), fun h => absurd h (by decide)⟩, List.forall_mem_cons.mpr ⟨⟨RX3, TX3, 8, rfl, by decide, fun w h => mIn (inC_X3 w h), mIn (mAt (i := 551) (by decide +kernel)), fun h => absurd h (by decide)⟩, fun _ h => absurd h List.not_mem_nil⟩⟩⟩)
    (fun _ h => absurd h List.not_mem_nil)
    (List.forall_mem_cons.mpr ⟨Or.inr ⟨rfl, yX8_inFlash, cX8_inFlash, 1, (some .boolean), wkX8_inFlash, _, rmX8_inFlash, mGoodS goodC (mAt (i := 483) (by decide +kernel)) (mAt (i := 485) (by decide +kernel)) (mAt (i := 484) (by decide +kernel)) (mAt (i := 481) (by decide +kernel)), rfl, rfl, rfl, by decide +kernel, by decide, metX8_inFlash l D ad tc⟩, fun _ h => absurd h List.not_mem_nil⟩) rfl rfl (by decide +kernel) (by decide) (by decide)
-- FlashBoardModel.right
def bsX9_right : List mBl := [(0, [(0, .aload_n 0, [], 0, 0), (1, .iload_n 1, [], 0, 0), (2, .ifCond .eq 7, [(9, 0)], 0, 0), (5, .iconst 0, [], 0, 0), (6, .goto 4, [(10, 0)], 0, 0)], 9),
  (9, [(9, .iconst 1, [], 1, 0)], 10),
  (10, [(10, .putfield 74, [], 0, 0), (13, .iload_n 1, [], 0, 0), (14, .ireturn, [], 0, 0)], 15)]
def fdX9_right : mFt := [(74, 12, 0, 1)]
def clX9_right : mCt := []
def spX9_right : mSp := mSpOf shM fdX9_right clX9_right bsX9_right 2 (some .boolean)
abbrev rmX9_right : Room := { frames := 0, cells := 0, slots := 0, locals := 0 }
abbrev wkX9_right : List Jvm.Cond := .code yX9_right cX9_right 2 (some .boolean) :: wM
set_option maxRecDepth 100000 in
set_option maxHeartbeats 4000000 in
theorem metX9_right (l : Launch) (D : va_G) (ad : Nat → Nat) (tc : Nat → ClassId) : mMet l D vwCl ad tc shM yX9_right wkX9_right rmX9_right spX9_right :=
  mMet_of (own := RX9) (ret := (some .boolean)) (Fd := fdX9_right) (Cl := clX9_right) (Ks := []) (Fi := [(74, 0)]) (Ci := []) (bs := bsX9_right) rfl (by decide +kernel) rfl (by decide +kernel)
    (List.forall_mem_cons.mpr ⟨⟨RX9, TX9, 39, rfl, by decide, fun w h => mIn (inM_X9 w h), mIn (mAt (i := 1) (by decide +kernel)), fun _ => ⟨tyX9, tyX9_ok, nmX9, rfl, by decide +kernel⟩⟩, fun _ h => absurd h List.not_mem_nil⟩)
    (fun _ h => absurd h List.not_mem_nil)
    (fun _ h => absurd h List.not_mem_nil) rfl rfl (by decide +kernel) (by decide) (by decide)
-- FlashBoardModel.pointer
def bsX9_pointer : List mBl := [(0, [(0, .aload_n 0, [], 0, 0), (1, .getfield 16, [], 0, 0), (4, .iload_n 1, [], 0, 0), (5, .iaload, [], 0, 0), (6, .aload_n 0, [], 0, 0), (7, .getfield 16, [], 0, 0), (10, .iload_n 1, [], 0, 0), (11, .iconst 1, [], 1, 0), (12, .iadd, [], 0, 0), (13, .iaload, [], 0, 0), (14, .bipush 8, [], 8, 0), (16, .ishl, [], 0, 0), (17, .ior, [], 0, 0), (18, .ireturn, [], 0, 0)], 19)]
def fdX9_pointer : mFt := [(16, 12, 3, 0)]
def clX9_pointer : mCt := []
def spX9_pointer : mSp := mSpOf shM fdX9_pointer clX9_pointer bsX9_pointer 2 (some .int)
abbrev rmX9_pointer : Room := { frames := 0, cells := 0, slots := 0, locals := 0 }
abbrev wkX9_pointer : List Jvm.Cond := .code yX9_pointer cX9_pointer 2 (some .int) :: wM
set_option maxRecDepth 100000 in
set_option maxHeartbeats 4000000 in
theorem metX9_pointer (l : Launch) (D : va_G) (ad : Nat → Nat) (tc : Nat → ClassId) : mMet l D vwCl ad tc shM yX9_pointer wkX9_pointer rmX9_pointer spX9_pointer :=
  mMet_of (own := RX9) (ret := (some .int)) (Fd := fdX9_pointer) (Cl := clX9_pointer) (Ks := []) (Fi := [(16, 0)]) (Ci := []) (bs := bsX9_pointer) rfl (by decide +kernel) rfl (by decide +kernel)
    (List.forall_mem_cons.mpr ⟨⟨RX9, TX9, 39, rfl, by decide, fun w h => mIn (inM_X9 w h), mIn (mAt (i := 3) (by decide +kernel)), fun h => absurd h (by decide)⟩, fun _ h => absurd h List.not_mem_nil⟩)
    (fun _ h => absurd h List.not_mem_nil)
    (fun _ h => absurd h List.not_mem_nil) rfl rfl (by decide +kernel) (by decide) (by decide)
-- FlashBoardModel.flag
def bsX9_flag : List mBl := [(0, [(0, .aload_n 0, [], 0, 0), (1, .getfield 16, [], 0, 0), (4, .bipush 95, [], 95, 0), (6, .iaload, [], 0, 0), (7, .iload_n 1, [], 0, 0), (8, .ishr, [], 0, 0), (9, .iconst 1, [], 1, 0), (10, .iand, [], 0, 0), (11, .iconst 1, [], 1, 0), (12, .if_icmp .ne 7, [(19, 0)], 0, 0), (15, .iconst 1, [], 1, 0), (16, .goto 4, [(20, 0)], 0, 0)], 19),
  (19, [(19, .iconst 0, [], 0, 0)], 20),
  (20, [(20, .ireturn, [], 0, 0)], 21)]
def fdX9_flag : mFt := [(16, 12, 3, 0)]
def clX9_flag : mCt := []
def spX9_flag : mSp := mSpOf shM fdX9_flag clX9_flag bsX9_flag 2 (some .boolean)
abbrev rmX9_flag : Room := { frames := 0, cells := 0, slots := 0, locals := 0 }
abbrev wkX9_flag : List Jvm.Cond := .code yX9_flag cX9_flag 2 (some .boolean) :: wM
set_option maxRecDepth 100000 in
set_option maxHeartbeats 4000000 in
theorem metX9_flag (l : Launch) (D : va_G) (ad : Nat → Nat) (tc : Nat → ClassId) : mMet l D vwCl ad tc shM yX9_flag wkX9_flag rmX9_flag spX9_flag :=
  mMet_of (own := RX9) (ret := (some .boolean)) (Fd := fdX9_flag) (Cl := clX9_flag) (Ks := []) (Fi := [(16, 0)]) (Ci := []) (bs := bsX9_flag) rfl (by decide +kernel) rfl (by decide +kernel)
    (List.forall_mem_cons.mpr ⟨⟨RX9, TX9, 39, rfl, by decide, fun w h => mIn (inM_X9 w h), mIn (mAt (i := 3) (by decide +kernel)), fun h => absurd h (by decide)⟩, fun _ h => absurd h List.not_mem_nil⟩)
    (fun _ h => absurd h List.not_mem_nil)
    (fun _ h => absurd h List.not_mem_nil) rfl rfl (by decide +kernel) (by decide) (by decide)
-- FlashBoardModel.interrupt
def bsX9_interrupt : List mBl := [(0, [(0, .aload_n 0, [], 0, 0), (1, .getfield 16, [], 0, 0), (4, .bipush 96, [], 96, 0), (6, .iaload, [], 0, 0), (7, .istore_n 1, [], 0, 0), (8, .aload_n 0, [], 0, 0), (9, .getfield 16, [], 0, 0), (12, .bipush 53, [], 53, 0), (14, .iaload, [], 0, 0), (15, .aload_n 0, [], 0, 0), (16, .getfield 16, [], 0, 0), (19, .bipush 110, [], 110, 0), (21, .iaload, [], 0, 0), (22, .iand, [], 0, 0), (23, .istore_n 2, [], 0, 0), (24, .aload_n 0, [], 0, 0), (25, .getfield 16, [], 0, 0), (28, .sipush 192, [], 192, 0), (31, .iaload, [], 0, 0), (32, .aload_n 0, [], 0, 0), (33, .getfield 16, [], 0, 0), (36, .sipush 193, [], 193, 0), (39, .iaload, [], 0, 0), (40, .iand, [], 0, 0), (41, .istore_n 3, [], 0, 0), (42, .iload_n 1, [], 0, 0), (43, .sipush 192, [], 192, 0), (46, .iand, [], 0, 0), (47, .sipush 192, [], 192, 0), (50, .if_icmp .ne 5, [(55, 0)], 0, 0), (53, .iconst 1, [], 1, 0), (54, .ireturn, [], 0, 0)], 55),
  (55, [(55, .iload_n 2, [], 0, 0), (56, .iconst 2, [], 2, 0), (57, .iand, [], 0, 0), (58, .ifCond .eq 5, [(63, 0)], 0, 0), (61, .iconst 2, [], 2, 0), (62, .ireturn, [], 0, 0)], 63),
  (63, [(63, .iload_n 2, [], 0, 0), (64, .iconst 1, [], 1, 0), (65, .iand, [], 0, 0), (66, .ifCond .eq 5, [(71, 0)], 0, 0), (69, .iconst 3, [], 3, 0), (70, .ireturn, [], 0, 0)], 71),
  (71, [(71, .iload_n 3, [], 0, 0), (72, .sipush 128, [], 128, 0), (75, .iand, [], 0, 0), (76, .ifCond .eq 5, [(81, 0)], 0, 0), (79, .iconst 4, [], 4, 0), (80, .ireturn, [], 0, 0)], 81),
  (81, [(81, .iload_n 3, [], 0, 0), (82, .bipush 32, [], 32, 0), (84, .iand, [], 0, 0), (85, .ifCond .eq 5, [(90, 0)], 0, 0), (88, .iconst 5, [], 5, 0), (89, .ireturn, [], 0, 0)], 90),
  (90, [(90, .iload_n 3, [], 0, 0), (91, .bipush 64, [], 64, 0), (93, .iand, [], 0, 0), (94, .ifCond .eq 6, [(100, 0)], 0, 0), (97, .bipush 6, [], 6, 0), (99, .ireturn, [], 0, 0)], 100),
  (100, [(100, .aload_n 0, [], 0, 0), (101, .getfield 16, [], 0, 0), (104, .bipush 63, [], 63, 0), (106, .iaload, [], 0, 0), (107, .bipush 10, [], 10, 0), (109, .iand, [], 0, 0), (110, .bipush 8, [], 8, 0), (112, .if_icmp .ne 6, [(118, 0)], 0, 0), (115, .bipush 7, [], 7, 0), (117, .ireturn, [], 0, 0)], 118),
  (118, [(118, .aload_n 0, [], 0, 0), (119, .getfield 16, [], 0, 0), (122, .bipush 87, [], 87, 0), (124, .iaload, [], 0, 0), (125, .sipush 129, [], 129, 0), (128, .iand, [], 0, 0), (129, .sipush 128, [], 128, 0), (132, .if_icmp .ne 8, [(140, 0)], 0, 0), (135, .bipush 8, [], 8, 0), (137, .goto 4, [(141, 0)], 0, 0)], 140),
  (140, [(140, .iconst 0, [], 0, 0)], 141),
  (141, [(141, .ireturn, [], 0, 0)], 142)]
def fdX9_interrupt : mFt := [(16, 12, 3, 0)]
def clX9_interrupt : mCt := []
def spX9_interrupt : mSp := mSpOf shM fdX9_interrupt clX9_interrupt bsX9_interrupt 1 (some .int)
abbrev rmX9_interrupt : Room := { frames := 0, cells := 0, slots := 0, locals := 0 }
abbrev wkX9_interrupt : List Jvm.Cond := .code yX9_interrupt cX9_interrupt 4 (some .int) :: wM
set_option maxRecDepth 100000 in
set_option maxHeartbeats 4000000 in
theorem metX9_interrupt (l : Launch) (D : va_G) (ad : Nat → Nat) (tc : Nat → ClassId) : mMet l D vwCl ad tc shM yX9_interrupt wkX9_interrupt rmX9_interrupt spX9_interrupt :=
  mMet_of (own := RX9) (ret := (some .int)) (Fd := fdX9_interrupt) (Cl := clX9_interrupt) (Ks := []) (Fi := [(16, 0)]) (Ci := []) (bs := bsX9_interrupt) rfl (by decide +kernel) rfl (by decide +kernel)
    (List.forall_mem_cons.mpr ⟨⟨RX9, TX9, 39, rfl, by decide, fun w h => mIn (inM_X9 w h), mIn (mAt (i := 3) (by decide +kernel)), fun h => absurd h (by decide)⟩, fun _ h => absurd h List.not_mem_nil⟩)
    (fun _ h => absurd h List.not_mem_nil)
    (fun _ h => absurd h List.not_mem_nil) rfl rfl (by decide +kernel) (by decide) (by decide)
-- FlashBoardModel.awaited
def bsX9_awaited : List mBl := [(0, [(0, .aload_n 0, [], 0, 0), (1, .bipush 7, [], 7, 0), (3, .invokevirtual 163, [], 0, 0), (6, .ifCond .eq 10, [(16, 0)], 0, 0), (9, .aload_n 0, [], 0, 0), (10, .invokevirtual 166, [], 0, 1), (13, .goto 4, [(17, 0)], 0, 0)], 16),
  (16, [(16, .iconst 0, [], 0, 0)], 17),
  (17, [(17, .ireturn, [], 0, 0)], 18)]
def fdX9_awaited : mFt := []
def clX9_awaited : mCt := [(163, 0, 1, 12, spX9_flag), (166, 0, 0, 12, spX9_interrupt)]
def spX9_awaited : mSp := mSpOf shM fdX9_awaited clX9_awaited bsX9_awaited 1 (some .int)
abbrev rmX9_awaited : Room := { frames := 1, cells := 0, slots := 0, locals := 23 }
abbrev wkX9_awaited : List Jvm.Cond := .code yX9_awaited cX9_awaited 1 (some .int) :: wM
set_option maxRecDepth 100000 in
set_option maxHeartbeats 4000000 in
theorem metX9_awaited (l : Launch) (D : va_G) (ad : Nat → Nat) (tc : Nat → ClassId) : mMet l D vwCl ad tc shM yX9_awaited wkX9_awaited rmX9_awaited spX9_awaited :=
  mMet_of (own := RX9) (ret := (some .int)) (Fd := fdX9_awaited) (Cl := clX9_awaited) (Ks := []) (Fi := []) (Ci := [(163, 0), (166, 0)]) (bs := bsX9_awaited) rfl (by decide +kernel) rfl (by decide +kernel)
    (fun _ h => absurd h List.not_mem_nil)
    (fun _ h => absurd h List.not_mem_nil)
    (List.forall_mem_cons.mpr ⟨Or.inl ⟨rfl, RX9, TX9, 39, yX9_flag, cX9_flag, 2, (some .boolean), wkX9_flag, _, rmX9_flag, rfl, mGoodV goodM (mAt (i := 7) (by decide +kernel)) (mAt (i := 9) (by decide +kernel)) (mAt (i := 10) (by decide +kernel)) (mAt (i := 8) (by decide +kernel)) (mAt (i := 4) (by decide +kernel)), rfl, rfl, rfl, by decide +kernel, by decide, metX9_flag l D ad tc⟩, List.forall_mem_cons.mpr ⟨Or.inl ⟨rfl, RX9, TX9, 39, yX9_interrupt, cX9_interrupt, 4, (some .int), wkX9_interrupt, _, rmX9_interrupt, rfl, mGoodV goodM (mAt (i := 11) (by decide +kernel)) (mAt (i := 12) (by decide +kernel)) (mAt (i := 13) (by decide +kernel)) (mAt (i := 8) (by decide +kernel)) (mAt (i := 5) (by decide +kernel)), rfl, rfl, rfl, by decide +kernel, by decide, metX9_interrupt l D ad tc⟩, fun _ h => absurd h List.not_mem_nil⟩⟩) rfl rfl (by decide +kernel) (by decide) (by decide)
-- FlashBoardModel.about
def bsX9_about : List mBl := [(0, [(0, .aload_n 0, [], 0, 0), (1, .iload_n 1, [], 0, 0), (2, .ifCond .lt 13, [(15, 0)], 0, 0), (5, .iload_n 1, [], 0, 0), (6, .bipush 21, [], 21, 0), (8, .if_icmp .gt 7, [(15, 0)], 0, 0), (11, .iconst 1, [], 1, 0), (12, .goto 4, [(16, 0)], 0, 0)], 15),
  (15, [(15, .iconst 0, [], 0, 0)], 16),
  (16, [(16, .invokevirtual 359, [], 0, 0), (19, .ifCond .ne 5, [(24, 0)], 0, 0), (22, .iconst 0, [], 0, 0), (23, .ireturn, [], 0, 0)], 24),
  (24, [(24, .iload_n 1, [], 0, 0), (25, .tableswitch 252 0 20 #[99, 104, 111, 124, 129, 134, 139, 144, 149, 184, 189, 194, 199, 204, 209, 214, 219, 224, 229, 234, 239], [(124, 0), (129, 1), (136, 2), (149, 3), (154, 4), (159, 5), (164, 6), (169, 7), (174, 8), (209, 9), (214, 10), (219, 11), (224, 12), (229, 13), (234, 14), (239, 15), (244, 16), (249, 17), (254, 18), (259, 19), (264, 20), (277, 0)], 0, 99)], 124),
  (124, [(124, .aload_n 0, [], 0, 0), (125, .getfield 77, [], 0, 0), (128, .ireturn, [], 0, 0)], 129),
  (129, [(129, .aload_n 0, [], 0, 0), (130, .bipush 93, [], 93, 0), (132, .invokevirtual 231, [], 0, 1), (135, .ireturn, [], 0, 0)], 136),
  (136, [(136, .aload_n 0, [], 0, 0), (137, .getfield 80, [], 0, 1), (140, .ifCond .eq 7, [(147, 0)], 0, 0), (143, .iconst 1, [], 1, 0), (144, .goto 4, [(148, 0)], 0, 0)], 147),
  (147, [(147, .iconst 0, [], 0, 0)], 148),
  (148, [(148, .ireturn, [], 0, 0)], 149),
  (149, [(149, .aload_n 0, [], 0, 0), (150, .getfield 179, [], 0, 2), (153, .ireturn, [], 0, 0)], 154),
  (154, [(154, .aload_n 0, [], 0, 0), (155, .getfield 213, [], 0, 3), (158, .ireturn, [], 0, 0)], 159),
  (159, [(159, .aload_n 0, [], 0, 0), (160, .getfield 176, [], 0, 4), (163, .ireturn, [], 0, 0)], 164),
  (164, [(164, .aload_n 0, [], 0, 0), (165, .getfield 210, [], 0, 5), (168, .ireturn, [], 0, 0)], 169),
  (169, [(169, .aload_n 0, [], 0, 0), (170, .getfield 86, [], 0, 6), (173, .ireturn, [], 0, 0)], 174),
  (174, [(174, .iconst 0, [], 0, 0), (175, .istore_n 2, [], 0, 0), (176, .iconst 0, [], 0, 0), (177, .istore_n 3, [], 0, 0)], 178),
  (178, [(178, .iload_n 3, [], 0, 0), (179, .bipush 32, [], 32, 0), (181, .if_icmp .ge 26, [(207, 0)], 0, 0), (184, .iload_n 2, [], 0, 0), (185, .aload_n 0, [], 0, 0), (186, .getfield 22, [], 0, 7), (189, .iload_n 3, [], 0, 0), (190, .baload, [], 0, 0), (191, .ifCond .eq 7, [(198, 0)], 0, 0), (194, .iconst 1, [], 1, 0), (195, .goto 4, [(199, 0)], 0, 0)], 198),
  (198, [(198, .iconst 0, [], 0, 0)], 199),
  (199, [(199, .iadd, [], 0, 0), (200, .istore_n 2, [], 0, 0), (201, .iinc 3 1, [], 1, 0), (204, .goto (-26), [(178, 0)], 0, 0)], 207),
  (207, [(207, .iload_n 2, [], 0, 0), (208, .ireturn, [], 0, 0)], 209),
  (209, [(209, .aload_n 0, [], 0, 0), (210, .getfield 92, [], 0, 8), (213, .ireturn, [], 0, 0)], 214),
  (214, [(214, .aload_n 0, [], 0, 0), (215, .getfield 89, [], 0, 9), (218, .ireturn, [], 0, 0)], 219),
  (219, [(219, .aload_n 0, [], 0, 0), (220, .getfield 204, [], 0, 10), (223, .ireturn, [], 0, 0)], 224),
  (224, [(224, .aload_n 0, [], 0, 0), (225, .getfield 119, [], 0, 11), (228, .ireturn, [], 0, 0)], 229),
  (229, [(229, .aload_n 0, [], 0, 0), (230, .getfield 113, [], 0, 12), (233, .ireturn, [], 0, 0)], 234),
  (234, [(234, .aload_n 0, [], 0, 0), (235, .getfield 116, [], 0, 13), (238, .ireturn, [], 0, 0)], 239),
  (239, [(239, .aload_n 0, [], 0, 0), (240, .getfield 95, [], 0, 14), (243, .ireturn, [], 0, 0)], 244),
  (244, [(244, .aload_n 0, [], 0, 0), (245, .getfield 98, [], 0, 15), (248, .ireturn, [], 0, 0)], 249),
  (249, [(249, .aload_n 0, [], 0, 0), (250, .getfield 101, [], 0, 16), (253, .ireturn, [], 0, 0)], 254),
  (254, [(254, .aload_n 0, [], 0, 0), (255, .getfield 104, [], 0, 17), (258, .ireturn, [], 0, 0)], 259),
  (259, [(259, .aload_n 0, [], 0, 0), (260, .getfield 107, [], 0, 18), (263, .ireturn, [], 0, 0)], 264),
  (264, [(264, .aload_n 0, [], 0, 0), (265, .getfield 33, [], 0, 19), (268, .ifCond .eq 7, [(275, 0)], 0, 0), (271, .iconst 1, [], 1, 0), (272, .goto 4, [(276, 0)], 0, 0)], 275),
  (275, [(275, .iconst 0, [], 0, 0)], 276),
  (276, [(276, .ireturn, [], 0, 0)], 277),
  (277, [(277, .aload_n 0, [], 0, 0), (278, .invokevirtual 216, [], 0, 2), (281, .ireturn, [], 0, 0)], 282)]
def fdX9_about : mFt := [(77, 12, 12, 1), (80, 12, 10, 2), (179, 12, 13, 1), (213, 12, 14, 1), (176, 12, 15, 1), (210, 12, 16, 1), (86, 12, 17, 1), (22, 12, 5, 0), (92, 12, 19, 1), (89, 12, 18, 1), (204, 12, 35, 1), (119, 12, 32, 1), (113, 12, 27, 1), (116, 12, 29, 1), (95, 12, 20, 1), (98, 12, 21, 1), (101, 12, 22, 1), (104, 12, 23, 1), (107, 12, 24, 1), (33, 12, 9, 2)]
def clX9_about : mCt := [(359, 0, 1, 12, spX9_right), (231, 0, 1, 12, spX9_pointer), (216, 0, 0, 12, spX9_awaited)]
def spX9_about : mSp := mSpOf shM fdX9_about clX9_about bsX9_about 2 (some .int)
abbrev rmX9_about : Room := { frames := 2, cells := 0, slots := 0, locals := 43 }
abbrev wkX9_about : List Jvm.Cond := .code yX9_about cX9_about 4 (some .int) :: wM
set_option maxRecDepth 100000 in
set_option maxHeartbeats 4000000 in
theorem metX9_about (l : Launch) (D : va_G) (ad : Nat → Nat) (tc : Nat → ClassId) : mMet l D vwCl ad tc shM yX9_about wkX9_about rmX9_about spX9_about :=
  mMet_of (own := RX9) (ret := (some .int)) (Fd := fdX9_about) (Cl := clX9_about) (Ks := []) (Fi := [(77, 0), (80, 0), (179, 0), (213, 0), (176, 0), (210, 0), (86, 0), (22, 0), (92, 0), (89, 0), (204, 0), (119, 0), (113, 0), (116, 0), (95, 0), (98, 0), (101, 0), (104, 0), (107, 0), (33, 0)]) (Ci := [(359, 0), (231, 0), (216, 0)]) (bs := bsX9_about) rfl (by decide +kernel) rfl (by decide +kernel)
    (List.forall_mem_cons.mpr ⟨⟨RX9, TX9, 39, rfl, by decide, fun w h => mIn (inM_X9 w h), mIn (mAt (i := 15) (by decide +kernel)), fun _ => ⟨tyX9, tyX9_ok, nmX9, rfl, by decide +kernel⟩⟩, List.forall_mem_cons.mpr ⟨⟨RX9, TX9, 39, rfl, by decide, fun w h => mIn (inM_X9 w h), mIn (mAt (i := 16) (by decide +kernel)), fun _ => ⟨tyX9, tyX9_ok, nmX9, rfl, by decide +kernel⟩⟩, List.forall_mem_cons.mpr ⟨⟨RX9, TX9, 39, rfl, by decide, fun w h => mIn (inM_X9 w h), mIn (mAt (i := 17) (by decide +kernel)), fun _ => ⟨tyX9, tyX9_ok, nmX9, rfl, by decide +kernel⟩⟩, List.forall_mem_cons.mpr ⟨⟨RX9, TX9, 39, rfl, by decide, fun w h => mIn (inM_X9 w h), mIn (mAt (i := 18) (by decide +kernel)), fun _ => ⟨tyX9, tyX9_ok, nmX9, rfl, by decide +kernel⟩⟩, List.forall_mem_cons.mpr ⟨⟨RX9, TX9, 39, rfl, by decide, fun w h => mIn (inM_X9 w h), mIn (mAt (i := 19) (by decide +kernel)), fun _ => ⟨tyX9, tyX9_ok, nmX9, rfl, by decide +kernel⟩⟩, List.forall_mem_cons.mpr ⟨⟨RX9, TX9, 39, rfl, by decide, fun w h => mIn (inM_X9 w h), mIn (mAt (i := 20) (by decide +kernel)), fun _ => ⟨tyX9, tyX9_ok, nmX9, rfl, by decide +kernel⟩⟩, List.forall_mem_cons.mpr ⟨⟨RX9, TX9, 39, rfl, by decide, fun w h => mIn (inM_X9 w h), mIn (mAt (i := 21) (by decide +kernel)), fun _ => ⟨tyX9, tyX9_ok, nmX9, rfl, by decide +kernel⟩⟩, List.forall_mem_cons.mpr ⟨⟨RX9, TX9, 39, rfl, by decide, fun w h => mIn (inM_X9 w h), mIn (mAt (i := 22) (by decide +kernel)), fun h => absurd h (by decide)⟩, List.forall_mem_cons.mpr ⟨⟨RX9, TX9, 39, rfl, by decide, fun w h => mIn (inM_X9 w h), mIn (mAt (i := 23) (by decide +kernel)), fun _ => ⟨tyX9, tyX9_ok, nmX9, rfl, by decide +kernel⟩⟩, List.forall_mem_cons.mpr ⟨⟨RX9, TX9, 39, rfl, by decide, fun w h => mIn (inM_X9 w h), mIn (mAt (i := 24) (by decide +kernel)), fun _ => ⟨tyX9, tyX9_ok, nmX9, rfl, by decide +kernel⟩⟩, List.forall_mem_cons.mpr ⟨⟨RX9, TX9, 39, rfl, by decide, fun w h => mIn (inM_X9 w h), mIn (mAt (i := 25) (by decide +kernel)), fun _ => ⟨tyX9, tyX9_ok, nmX9, rfl, by decide +kernel⟩⟩, List.forall_mem_cons.mpr ⟨⟨RX9, TX9, 39, rfl, by decide, fun w h => mIn (inM_X9 w h), mIn (mAt (i := 26) (by decide +kernel)), fun _ => ⟨tyX9, tyX9_ok, nmX9, rfl, by decide +kernel⟩⟩, List.forall_mem_cons.mpr ⟨⟨RX9, TX9, 39, rfl, by decide, fun w h => mIn (inM_X9 w h), mIn (mAt (i := 27) (by decide +kernel)), fun _ => ⟨tyX9, tyX9_ok, nmX9, rfl, by decide +kernel⟩⟩, List.forall_mem_cons.mpr ⟨⟨RX9, TX9, 39, rfl, by decide, fun w h => mIn (inM_X9 w h), mIn (mAt (i := 28) (by decide +kernel)), fun _ => ⟨tyX9, tyX9_ok, nmX9, rfl, by decide +kernel⟩⟩, List.forall_mem_cons.mpr ⟨⟨RX9, TX9, 39, rfl, by decide, fun w h => mIn (inM_X9 w h), mIn (mAt (i := 29) (by decide +kernel)), fun _ => ⟨tyX9, tyX9_ok, nmX9, rfl, by decide +kernel⟩⟩, List.forall_mem_cons.mpr ⟨⟨RX9, TX9, 39, rfl, by decide, fun w h => mIn (inM_X9 w h), mIn (mAt (i := 30) (by decide +kernel)), fun _ => ⟨tyX9, tyX9_ok, nmX9, rfl, by decide +kernel⟩⟩, List.forall_mem_cons.mpr ⟨⟨RX9, TX9, 39, rfl, by decide, fun w h => mIn (inM_X9 w h), mIn (mAt (i := 31) (by decide +kernel)), fun _ => ⟨tyX9, tyX9_ok, nmX9, rfl, by decide +kernel⟩⟩, List.forall_mem_cons.mpr ⟨⟨RX9, TX9, 39, rfl, by decide, fun w h => mIn (inM_X9 w h), mIn (mAt (i := 32) (by decide +kernel)), fun _ => ⟨tyX9, tyX9_ok, nmX9, rfl, by decide +kernel⟩⟩, List.forall_mem_cons.mpr ⟨⟨RX9, TX9, 39, rfl, by decide, fun w h => mIn (inM_X9 w h), mIn (mAt (i := 33) (by decide +kernel)), fun _ => ⟨tyX9, tyX9_ok, nmX9, rfl, by decide +kernel⟩⟩, List.forall_mem_cons.mpr ⟨⟨RX9, TX9, 39, rfl, by decide, fun w h => mIn (inM_X9 w h), mIn (mAt (i := 34) (by decide +kernel)), fun _ => ⟨tyX9, tyX9_ok, nmX9, rfl, by decide +kernel⟩⟩, fun _ h => absurd h List.not_mem_nil⟩⟩⟩⟩⟩⟩⟩⟩⟩⟩⟩⟩⟩⟩⟩⟩⟩⟩⟩⟩)
    (fun _ h => absurd h List.not_mem_nil)
    (List.forall_mem_cons.mpr ⟨Or.inl ⟨rfl, RX9, TX9, 39, yX9_right, cX9_right, 2, (some .boolean), wkX9_right, _, rmX9_right, rfl, mGoodV goodM (mAt (i := 35) (by decide +kernel)) (mAt (i := 36) (by decide +kernel)) (mAt (i := 37) (by decide +kernel)) (mAt (i := 8) (by decide +kernel)) (mAt (i := 0) (by decide +kernel)), rfl, rfl, rfl, by decide +kernel, by decide, metX9_right l D ad tc⟩, List.forall_mem_cons.mpr ⟨Or.inl ⟨rfl, RX9, TX9, 39, yX9_pointer, cX9_pointer, 2, (some .int), wkX9_pointer, _, rmX9_pointer, rfl, mGoodV goodM (mAt (i := 38) (by decide +kernel)) (mAt (i := 39) (by decide +kernel)) (mAt (i := 40) (by decide +kernel)) (mAt (i := 8) (by decide +kernel)) (mAt (i := 2) (by decide +kernel)), rfl, rfl, rfl, by decide +kernel, by decide, metX9_pointer l D ad tc⟩, List.forall_mem_cons.mpr ⟨Or.inl ⟨rfl, RX9, TX9, 39, yX9_awaited, cX9_awaited, 1, (some .int), wkX9_awaited, _, rmX9_awaited, rfl, mGoodV goodM (mAt (i := 41) (by decide +kernel)) (mAt (i := 42) (by decide +kernel)) (mAt (i := 43) (by decide +kernel)) (mAt (i := 8) (by decide +kernel)) (mAt (i := 6) (by decide +kernel)), rfl, rfl, rfl, by decide +kernel, by decide, metX9_awaited l D ad tc⟩, fun _ h => absurd h List.not_mem_nil⟩⟩⟩) rfl rfl (by decide +kernel) (by decide) (by decide)
-- FlashBoardModel.signed
def bsX9_signed : List mBl := [(0, [(0, .iload_n 0, [], 0, 0), (1, .sipush 128, [], 128, 0), (4, .if_icmp .lt 11, [(15, 0)], 0, 0), (7, .iload_n 0, [], 0, 0), (8, .sipush 256, [], 256, 0), (11, .isub, [], 0, 0), (12, .goto 4, [(16, 0)], 0, 0)], 15),
  (15, [(15, .iload_n 0, [], 0, 0)], 16),
  (16, [(16, .ireturn, [], 0, 0)], 17)]
def fdX9_signed : mFt := []
def clX9_signed : mCt := []
def spX9_signed : mSp := mSpOf shM fdX9_signed clX9_signed bsX9_signed 1 (some .int)
abbrev rmX9_signed : Room := { frames := 0, cells := 0, slots := 0, locals := 0 }
abbrev wkX9_signed : List Jvm.Cond := .code yX9_signed cX9_signed 1 (some .int) :: wM
set_option maxRecDepth 100000 in
set_option maxHeartbeats 4000000 in
theorem metX9_signed (l : Launch) (D : va_G) (ad : Nat → Nat) (tc : Nat → ClassId) : mMet l D vwCl ad tc shM yX9_signed wkX9_signed rmX9_signed spX9_signed :=
  mMet_of (own := RX9) (ret := (some .int)) (Fd := fdX9_signed) (Cl := clX9_signed) (Ks := []) (Fi := []) (Ci := []) (bs := bsX9_signed) rfl (by decide +kernel) rfl (by decide +kernel)
    (fun _ h => absurd h List.not_mem_nil)
    (fun _ h => absurd h List.not_mem_nil)
    (fun _ h => absurd h List.not_mem_nil) rfl rfl (by decide +kernel) (by decide) (by decide)
-- FlashBoardModel.setFlag
def bsX9_setFlag : List mBl := [(0, [(0, .aload_n 0, [], 0, 0), (1, .getfield 16, [], 0, 0), (4, .bipush 95, [], 95, 0), (6, .iload_n 2, [], 0, 0), (7, .ifCond .eq 17, [(24, 0)], 0, 0), (10, .aload_n 0, [], 0, 0), (11, .getfield 16, [], 0, 0), (14, .bipush 95, [], 95, 0), (16, .iaload, [], 0, 0), (17, .iconst 1, [], 1, 0), (18, .iload_n 1, [], 0, 0), (19, .ishl, [], 0, 0), (20, .ior, [], 0, 0), (21, .goto 16, [(37, 0)], 0, 0)], 24),
  (24, [(24, .aload_n 0, [], 0, 0), (25, .getfield 16, [], 0, 0), (28, .bipush 95, [], 95, 0), (30, .iaload, [], 0, 0), (31, .iconst 1, [], 1, 0), (32, .iload_n 1, [], 0, 0), (33, .ishl, [], 0, 0), (34, .iconst (-1), [], (-1), 0), (35, .ixor, [], 0, 0), (36, .iand, [], 0, 0)], 37),
  (37, [(37, .iastore, [], 0, 0), (38, .return_, [], 0, 0)], 39)]
def fdX9_setFlag : mFt := [(16, 12, 3, 0)]
def clX9_setFlag : mCt := []
def spX9_setFlag : mSp := mSpOf shM fdX9_setFlag clX9_setFlag bsX9_setFlag 3 none
abbrev rmX9_setFlag : Room := { frames := 0, cells := 0, slots := 0, locals := 0 }
abbrev wkX9_setFlag : List Jvm.Cond := .code yX9_setFlag cX9_setFlag 3 none :: wM
set_option maxRecDepth 100000 in
set_option maxHeartbeats 4000000 in
theorem metX9_setFlag (l : Launch) (D : va_G) (ad : Nat → Nat) (tc : Nat → ClassId) : mMet l D vwCl ad tc shM yX9_setFlag wkX9_setFlag rmX9_setFlag spX9_setFlag :=
  mMet_of (own := RX9) (ret := none) (Fd := fdX9_setFlag) (Cl := clX9_setFlag) (Ks := []) (Fi := [(16, 0)]) (Ci := []) (bs := bsX9_setFlag) rfl (by decide +kernel) rfl (by decide +kernel)
    (List.forall_mem_cons.mpr ⟨⟨RX9, TX9, 39, rfl, by decide, fun w h => mIn (inM_X9 w h), mIn (mAt (i := 3) (by decide +kernel)), fun h => absurd h (by decide)⟩, fun _ h => absurd h List.not_mem_nil⟩)
    (fun _ h => absurd h List.not_mem_nil)
    (fun _ h => absurd h List.not_mem_nil) rfl rfl (by decide +kernel) (by decide) (by decide)
-- FlashBoardModel.zero
def bsX9_zero : List mBl := [(0, [(0, .aload_n 0, [], 0, 0), (1, .iconst 2, [], 2, 0), (2, .iload_n 1, [], 0, 0), (3, .sipush 128, [], 128, 0), (6, .if_icmp .lt 7, [(13, 0)], 0, 0), (9, .iconst 1, [], 1, 0), (10, .goto 4, [(14, 0)], 0, 0)], 13),
  (13, [(13, .iconst 0, [], 0, 0)], 14),
  (14, [(14, .invokevirtual 172, [], 0, 0), (17, .aload_n 0, [], 0, 0), (18, .iconst 1, [], 1, 0), (19, .iload_n 1, [], 0, 0), (20, .ifCond .ne 7, [(27, 0)], 0, 0), (23, .iconst 1, [], 1, 0), (24, .goto 4, [(28, 0)], 0, 0)], 27),
  (27, [(27, .iconst 0, [], 0, 0)], 28),
  (28, [(28, .invokevirtual 172, [], 0, 0), (31, .aload_n 0, [], 0, 0), (32, .iconst 4, [], 4, 0), (33, .aload_n 0, [], 0, 0), (34, .iconst 2, [], 2, 0), (35, .invokevirtual 163, [], 0, 1), (38, .aload_n 0, [], 0, 0), (39, .iconst 3, [], 3, 0), (40, .invokevirtual 163, [], 0, 1), (43, .if_icmp .eq 7, [(50, 0)], 0, 0), (46, .iconst 1, [], 1, 0), (47, .goto 4, [(51, 0)], 0, 0)], 50),
  (50, [(50, .iconst 0, [], 0, 0)], 51),
  (51, [(51, .invokevirtual 172, [], 0, 0), (54, .return_, [], 0, 0)], 55)]
def fdX9_zero : mFt := []
def clX9_zero : mCt := [(172, 0, 2, 12, spX9_setFlag), (163, 0, 1, 12, spX9_flag)]
def spX9_zero : mSp := mSpOf shM fdX9_zero clX9_zero bsX9_zero 2 none
abbrev rmX9_zero : Room := { frames := 1, cells := 0, slots := 0, locals := 22 }
abbrev wkX9_zero : List Jvm.Cond := .code yX9_zero cX9_zero 2 none :: wM
set_option maxRecDepth 100000 in
set_option maxHeartbeats 4000000 in
theorem metX9_zero (l : Launch) (D : va_G) (ad : Nat → Nat) (tc : Nat → ClassId) : mMet l D vwCl ad tc shM yX9_zero wkX9_zero rmX9_zero spX9_zero :=
  mMet_of (own := RX9) (ret := none) (Fd := fdX9_zero) (Cl := clX9_zero) (Ks := []) (Fi := []) (Ci := [(172, 0), (163, 0)]) (bs := bsX9_zero) rfl (by decide +kernel) rfl (by decide +kernel)
    (fun _ h => absurd h List.not_mem_nil)
    (fun _ h => absurd h List.not_mem_nil)
    (List.forall_mem_cons.mpr ⟨Or.inl ⟨rfl, RX9, TX9, 39, yX9_setFlag, cX9_setFlag, 3, none, wkX9_setFlag, _, rmX9_setFlag, rfl, mGoodV goodM (mAt (i := 47) (by decide +kernel)) (mAt (i := 48) (by decide +kernel)) (mAt (i := 49) (by decide +kernel)) (mAt (i := 8) (by decide +kernel)) (mAt (i := 45) (by decide +kernel)), rfl, rfl, rfl, by decide +kernel, by decide, metX9_setFlag l D ad tc⟩, List.forall_mem_cons.mpr ⟨Or.inl ⟨rfl, RX9, TX9, 39, yX9_flag, cX9_flag, 2, (some .boolean), wkX9_flag, _, rmX9_flag, rfl, mGoodV goodM (mAt (i := 7) (by decide +kernel)) (mAt (i := 9) (by decide +kernel)) (mAt (i := 10) (by decide +kernel)) (mAt (i := 8) (by decide +kernel)) (mAt (i := 4) (by decide +kernel)), rfl, rfl, rfl, by decide +kernel, by decide, metX9_flag l D ad tc⟩, fun _ h => absurd h List.not_mem_nil⟩⟩) rfl rfl (by decide +kernel) (by decide) (by decide)
-- FlashBoardModel.add
def bsX9_add : List mBl := [(0, [(0, .iload_n 1, [], 0, 0), (1, .iload_n 2, [], 0, 0), (2, .iadd, [], 0, 0), (3, .iload_n 3, [], 0, 0), (4, .iadd, [], 0, 0), (5, .sipush 255, [], 255, 0), (8, .iand, [], 0, 0), (9, .istore 4, [], 0, 0), (11, .iload_n 1, [], 0, 0), (12, .invokestatic 250, [], 0, 0), (15, .iload_n 2, [], 0, 0), (16, .invokestatic 250, [], 0, 0), (19, .iadd, [], 0, 0), (20, .iload_n 3, [], 0, 0), (21, .iadd, [], 0, 0), (22, .istore 5, [], 0, 0), (24, .aload_n 0, [], 0, 0), (25, .iconst 5, [], 5, 0), (26, .iload_n 1, [], 0, 0), (27, .bipush 15, [], 15, 0), (29, .iand, [], 0, 0), (30, .iload_n 2, [], 0, 0), (31, .bipush 15, [], 15, 0), (33, .iand, [], 0, 0), (34, .iadd, [], 0, 0), (35, .iload_n 3, [], 0, 0), (36, .iadd, [], 0, 0), (37, .bipush 15, [], 15, 0), (39, .if_icmp .le 7, [(46, 0)], 0, 0), (42, .iconst 1, [], 1, 0), (43, .goto 4, [(47, 0)], 0, 0)], 46),
  (46, [(46, .iconst 0, [], 0, 0)], 47),
  (47, [(47, .invokevirtual 172, [], 0, 1), (50, .aload_n 0, [], 0, 0), (51, .iconst 0, [], 0, 0), (52, .iload_n 1, [], 0, 0), (53, .iload_n 2, [], 0, 0), (54, .iadd, [], 0, 0), (55, .iload_n 3, [], 0, 0), (56, .iadd, [], 0, 0), (57, .sipush 255, [], 255, 0), (60, .if_icmp .le 7, [(67, 0)], 0, 0), (63, .iconst 1, [], 1, 0), (64, .goto 4, [(68, 0)], 0, 0)], 67),
  (67, [(67, .iconst 0, [], 0, 0)], 68),
  (68, [(68, .invokevirtual 172, [], 0, 1), (71, .aload_n 0, [], 0, 0), (72, .iconst 3, [], 3, 0), (73, .iload 5, [], 0, 0), (75, .bipush (-128), [], (-128), 0), (77, .if_icmp .lt 10, [(87, 0)], 0, 0), (80, .iload 5, [], 0, 0), (82, .bipush 127, [], 127, 0), (84, .if_icmp .le 7, [(91, 0)], 0, 0)], 87),
  (87, [(87, .iconst 1, [], 1, 0), (88, .goto 4, [(92, 0)], 0, 0)], 91),
  (91, [(91, .iconst 0, [], 0, 0)], 92),
  (92, [(92, .invokevirtual 172, [], 0, 1), (95, .aload_n 0, [], 0, 0), (96, .iload 4, [], 0, 0), (98, .invokevirtual 253, [], 0, 2), (101, .iload 4, [], 0, 0), (103, .ireturn, [], 0, 0)], 104)]
def fdX9_add : mFt := []
def clX9_add : mCt := [(250, 1, 1, 0, spX9_signed), (172, 0, 2, 12, spX9_setFlag), (253, 0, 1, 12, spX9_zero)]
def spX9_add : mSp := mSpOf shM fdX9_add clX9_add bsX9_add 4 (some .int)
abbrev rmX9_add : Room := { frames := 2, cells := 0, slots := 0, locals := 43 }
abbrev wkX9_add : List Jvm.Cond := .code yX9_add cX9_add 6 (some .int) :: wM
set_option maxRecDepth 100000 in
set_option maxHeartbeats 4000000 in
theorem metX9_add (l : Launch) (D : va_G) (ad : Nat → Nat) (tc : Nat → ClassId) : mMet l D vwCl ad tc shM yX9_add wkX9_add rmX9_add spX9_add :=
  mMet_of (own := RX9) (ret := (some .int)) (Fd := fdX9_add) (Cl := clX9_add) (Ks := []) (Fi := []) (Ci := [(250, 1), (172, 0), (253, 0)]) (bs := bsX9_add) rfl (by decide +kernel) rfl (by decide +kernel)
    (fun _ h => absurd h List.not_mem_nil)
    (fun _ h => absurd h List.not_mem_nil)
    (List.forall_mem_cons.mpr ⟨Or.inr ⟨rfl, yX9_signed, cX9_signed, 1, (some .int), wkX9_signed, _, rmX9_signed, mGoodS goodM (mAt (i := 51) (by decide +kernel)) (mAt (i := 52) (by decide +kernel)) (mAt (i := 8) (by decide +kernel)) (mAt (i := 44) (by decide +kernel)), rfl, rfl, rfl, by decide +kernel, by decide, metX9_signed l D ad tc⟩, List.forall_mem_cons.mpr ⟨Or.inl ⟨rfl, RX9, TX9, 39, yX9_setFlag, cX9_setFlag, 3, none, wkX9_setFlag, _, rmX9_setFlag, rfl, mGoodV goodM (mAt (i := 47) (by decide +kernel)) (mAt (i := 48) (by decide +kernel)) (mAt (i := 49) (by decide +kernel)) (mAt (i := 8) (by decide +kernel)) (mAt (i := 45) (by decide +kernel)), rfl, rfl, rfl, by decide +kernel, by decide, metX9_setFlag l D ad tc⟩, List.forall_mem_cons.mpr ⟨Or.inl ⟨rfl, RX9, TX9, 39, yX9_zero, cX9_zero, 2, none, wkX9_zero, _, rmX9_zero, rfl, mGoodV goodM (mAt (i := 53) (by decide +kernel)) (mAt (i := 54) (by decide +kernel)) (mAt (i := 55) (by decide +kernel)) (mAt (i := 8) (by decide +kernel)) (mAt (i := 46) (by decide +kernel)), rfl, rfl, rfl, by decide +kernel, by decide, metX9_zero l D ad tc⟩, fun _ h => absurd h List.not_mem_nil⟩⟩⟩) rfl rfl (by decide +kernel) (by decide) (by decide)
