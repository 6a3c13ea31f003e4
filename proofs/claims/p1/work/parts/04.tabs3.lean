-- FlashBoardModel.code
def bsX9_code : List mBl := [(0, [(0, .iload_n 1, [], 0, 0), (1, .sipush 2047, [], 2047, 0), (4, .iand, [], 0, 0), (5, .istore_n 2, [], 0, 0), (6, .iload_n 2, [], 0, 0), (7, .sipush 1536, [], 1536, 0), (10, .if_icmp .ge 21, [(31, 0)], 0, 0), (13, .aload_n 0, [], 0, 0), (14, .getfield 16, [], 0, 0), (17, .bipush 87, [], 87, 0), (19, .iaload, [], 0, 0), (20, .bipush 64, [], 64, 0), (22, .iand, [], 0, 0), (23, .ifCond .eq 8, [(31, 0)], 0, 0), (26, .ldc 43, [], 65535, 0), (28, .goto 9, [(37, 0)], 0, 0)], 31),
  (31, [(31, .aload_n 0, [], 0, 0), (32, .getfield 7, [], 0, 1), (35, .iload_n 2, [], 0, 0), (36, .iaload, [], 0, 0)], 37),
  (37, [(37, .ireturn, [], 0, 0)], 38)]
def fdX9_code : mFt := [(16, 12, 3, 0), (7, 12, 1, 0)]
def clX9_code : mCt := []
def spX9_code : mSp := mSpOf shM fdX9_code clX9_code bsX9_code 2 (some .int)
abbrev rmX9_code : Room := { frames := 0, cells := 0, slots := 0, locals := 0 }
abbrev wkX9_code : List Jvm.Cond := .code yX9_code cX9_code 3 (some .int) :: wM
set_option maxRecDepth 100000 in
set_option maxHeartbeats 4000000 in
theorem metX9_code (l : Launch) (D : va_G) (ad : Nat → Nat) (tc : Nat → ClassId) : mMet l D vwCl ad tc shM yX9_code wkX9_code rmX9_code spX9_code :=
  mMet_of (own := RX9) (ret := (some .int)) (Fd := fdX9_code) (Cl := clX9_code) (Ks := [(43, 65535)]) (Fi := [(16, 0), (7, 0)]) (Ci := []) (bs := bsX9_code) rfl (by decide +kernel) rfl (by decide +kernel)
    (List.forall_mem_cons.mpr ⟨⟨RX9, TX9, 39, rfl, by decide, fun w h => mIn (inM_X9 w h), mIn (mAt (i := 3) (by decide +kernel)), fun h => absurd h (by decide)⟩, List.forall_mem_cons.mpr ⟨⟨RX9, TX9, 39, rfl, by decide, fun w h => mIn (inM_X9 w h), mIn (mAt (i := 57) (by decide +kernel)), fun h => absurd h (by decide)⟩, fun _ h => absurd h List.not_mem_nil⟩⟩)
    (List.forall_mem_cons.mpr ⟨mIn (mAt (i := 58) (by decide +kernel)), fun _ h => absurd h List.not_mem_nil⟩)
    (fun _ h => absurd h List.not_mem_nil) rfl rfl (by decide +kernel) (by decide) (by decide)
-- FlashBoardModel.next
def bsX9_next : List mBl := [(0, [(0, .aload_n 0, [], 0, 0), (1, .aload_n 0, [], 0, 0), (2, .getfield 77, [], 0, 0), (5, .invokevirtual 228, [], 0, 0), (8, .istore_n 1, [], 0, 0), (9, .aload_n 0, [], 0, 0), (10, .aload_n 0, [], 0, 0), (11, .getfield 77, [], 0, 0), (14, .iconst 1, [], 1, 0), (15, .iadd, [], 0, 0), (16, .sipush 2047, [], 2047, 0), (19, .iand, [], 0, 0), (20, .putfield 77, [], 0, 0), (23, .iload_n 1, [], 0, 0), (24, .ireturn, [], 0, 0)], 25)]
def fdX9_next : mFt := [(77, 12, 12, 1)]
def clX9_next : mCt := [(228, 0, 1, 12, spX9_code)]
def spX9_next : mSp := mSpOf shM fdX9_next clX9_next bsX9_next 1 (some .int)
abbrev rmX9_next : Room := { frames := 1, cells := 0, slots := 0, locals := 22 }
abbrev wkX9_next : List Jvm.Cond := .code yX9_next cX9_next 2 (some .int) :: wM
set_option maxRecDepth 100000 in
set_option maxHeartbeats 4000000 in
theorem metX9_next (l : Launch) (D : va_G) (ad : Nat → Nat) (tc : Nat → ClassId) : mMet l D vwCl ad tc shM yX9_next wkX9_next rmX9_next spX9_next :=
  mMet_of (own := RX9) (ret := (some .int)) (Fd := fdX9_next) (Cl := clX9_next) (Ks := []) (Fi := [(77, 0)]) (Ci := [(228, 0)]) (bs := bsX9_next) rfl (by decide +kernel) rfl (by decide +kernel)
    (List.forall_mem_cons.mpr ⟨⟨RX9, TX9, 39, rfl, by decide, fun w h => mIn (inM_X9 w h), mIn (mAt (i := 15) (by decide +kernel)), fun _ => ⟨tyX9, tyX9_ok, nmX9, rfl, by decide +kernel⟩⟩, fun _ h => absurd h List.not_mem_nil⟩)
    (fun _ h => absurd h List.not_mem_nil)
    (List.forall_mem_cons.mpr ⟨Or.inl ⟨rfl, RX9, TX9, 39, yX9_code, cX9_code, 3, (some .int), wkX9_code, _, rmX9_code, rfl, mGoodV goodM (mAt (i := 60) (by decide +kernel)) (mAt (i := 61) (by decide +kernel)) (mAt (i := 62) (by decide +kernel)) (mAt (i := 8) (by decide +kernel)) (mAt (i := 56) (by decide +kernel)), rfl, rfl, rfl, by decide +kernel, by decide, metX9_code l D ad tc⟩, fun _ h => absurd h List.not_mem_nil⟩) rfl rfl (by decide +kernel) (by decide) (by decide)
-- FlashBoardModel.skips
def bsX9_skips : List mBl := [(0, [(0, .aload_n 0, [], 0, 0), (1, .invokevirtual 259, [], 0, 0), (4, .istore_n 1, [], 0, 0), (5, .iload_n 1, [], 0, 0), (6, .ldc_w 308, [], 64527, 0), (9, .iand, [], 0, 0), (10, .ldc_w 309, [], 36864, 1), (13, .if_icmp .eq 16, [(29, 0)], 0, 0), (16, .iload_n 1, [], 0, 0), (17, .ldc_w 310, [], 65036, 2), (20, .iand, [], 0, 0), (21, .ldc_w 311, [], 37900, 3), (24, .if_icmp .eq 5, [(29, 0)], 0, 0), (27, .iconst 1, [], 1, 0), (28, .ireturn, [], 0, 0)], 29),
  (29, [(29, .aload_n 0, [], 0, 0), (30, .invokevirtual 259, [], 0, 0), (33, .pop, [], 0, 0), (34, .iconst 2, [], 2, 0), (35, .ireturn, [], 0, 0)], 36)]
def fdX9_skips : mFt := []
def clX9_skips : mCt := [(259, 0, 0, 12, spX9_next)]
def spX9_skips : mSp := mSpOf shM fdX9_skips clX9_skips bsX9_skips 1 (some .int)
abbrev rmX9_skips : Room := { frames := 2, cells := 0, slots := 0, locals := 43 }
abbrev wkX9_skips : List Jvm.Cond := .code yX9_skips cX9_skips 2 (some .int) :: wM
set_option maxRecDepth 100000 in
set_option maxHeartbeats 4000000 in
theorem metX9_skips (l : Launch) (D : va_G) (ad : Nat → Nat) (tc : Nat → ClassId) : mMet l D vwCl ad tc shM yX9_skips wkX9_skips rmX9_skips spX9_skips :=
  mMet_of (own := RX9) (ret := (some .int)) (Fd := fdX9_skips) (Cl := clX9_skips) (Ks := [(308, 64527), (309, 36864), (310, 65036), (311, 37900)]) (Fi := []) (Ci := [(259, 0)]) (bs := bsX9_skips) rfl (by decide +kernel) rfl (by decide +kernel)
    (fun _ h => absurd h List.not_mem_nil)
    (List.forall_mem_cons.mpr ⟨mIn (mAt (i := 64) (by decide +kernel)), List.forall_mem_cons.mpr ⟨mIn (mAt (i := 65) (by decide +kernel)), List.forall_mem_cons.mpr ⟨mIn (mAt (i := 66) (by decide +kernel)), List.forall_mem_cons.mpr ⟨mIn (mAt (i := 67) (by decide +kernel)), fun _ h => absurd h List.not_mem_nil⟩⟩⟩⟩)
    (List.forall_mem_cons.mpr ⟨Or.inl ⟨rfl, RX9, TX9, 39, yX9_next, cX9_next, 2, (some .int), wkX9_next, _, rmX9_next, rfl, mGoodV goodM (mAt (i := 68) (by decide +kernel)) (mAt (i := 69) (by decide +kernel)) (mAt (i := 70) (by decide +kernel)) (mAt (i := 8) (by decide +kernel)) (mAt (i := 59) (by decide +kernel)), rfl, rfl, rfl, by decide +kernel, by decide, metX9_next l D ad tc⟩, fun _ h => absurd h List.not_mem_nil⟩) rfl rfl (by decide +kernel) (by decide) (by decide)
-- FlashBoardModel.bits
def bsX9_bits : List mBl := [(0, [(0, .iload_n 1, [], 0, 0), (1, .bipush 7, [], 7, 0), (3, .iand, [], 0, 0), (4, .istore_n 2, [], 0, 0), (5, .iload_n 1, [], 0, 0), (6, .iconst 4, [], 4, 0), (7, .ishr, [], 0, 0), (8, .bipush 31, [], 31, 0), (10, .iand, [], 0, 0), (11, .istore_n 3, [], 0, 0), (12, .iload_n 1, [], 0, 0), (13, .sipush 2048, [], 2048, 0), (16, .iand, [], 0, 0), (17, .ifCond .ne 67, [(84, 0)], 0, 0), (20, .iload_n 1, [], 0, 0), (21, .iconst 3, [], 3, 0), (22, .ishr, [], 0, 0), (23, .bipush 127, [], 127, 0), (25, .iand, [], 0, 0), (26, .istore 4, [], 0, 0), (28, .aload_n 0, [], 0, 0), (29, .iload_n 2, [], 0, 0), (30, .invokevirtual 163, [], 0, 0), (33, .iload_n 1, [], 0, 0), (34, .sipush 1024, [], 1024, 0), (37, .iand, [], 0, 0), (38, .ifCond .eq 7, [(45, 0)], 0, 0), (41, .iconst 1, [], 1, 0), (42, .goto 4, [(46, 0)], 0, 0)], 45),
  (45, [(45, .iconst 0, [], 0, 0)], 46),
  (46, [(46, .if_icmp .ne 5, [(51, 0)], 0, 0), (49, .iconst 1, [], 1, 0), (50, .ireturn, [], 0, 0)], 51),
  (51, [(51, .aload_n 0, [], 0, 0), (52, .aload_n 0, [], 0, 0), (53, .getfield 77, [], 0, 0), (56, .iload 4, [], 0, 0), (58, .bipush 64, [], 64, 0), (60, .if_icmp .lt 12, [(72, 0)], 0, 0), (63, .iload 4, [], 0, 0), (65, .sipush 128, [], 128, 0), (68, .isub, [], 0, 0), (69, .goto 5, [(74, 0)], 0, 0)], 72),
  (72, [(72, .iload 4, [], 0, 0)], 74),
  (74, [(74, .iadd, [], 0, 0), (75, .sipush 2047, [], 2047, 0), (78, .iand, [], 0, 0), (79, .putfield 77, [], 0, 0), (82, .iconst 2, [], 2, 0), (83, .ireturn, [], 0, 0)], 84),
  (84, [(84, .iload_n 1, [], 0, 0), (85, .bipush 8, [], 8, 0), (87, .iand, [], 0, 0), (88, .ifCond .eq 5, [(93, 0)], 0, 0), (91, .iconst 1, [], 1, 0), (92, .ireturn, [], 0, 0)], 93),
  (93, [(93, .aload_n 0, [], 0, 0), (94, .getfield 16, [], 0, 1), (97, .iload_n 3, [], 0, 0), (98, .iaload, [], 0, 0), (99, .iload_n 2, [], 0, 0), (100, .ishr, [], 0, 0), (101, .iconst 1, [], 1, 0), (102, .iand, [], 0, 0), (103, .iconst 1, [], 1, 0), (104, .if_icmp .ne 7, [(111, 0)], 0, 0), (107, .iconst 1, [], 1, 0), (108, .goto 4, [(112, 0)], 0, 0)], 111),
  (111, [(111, .iconst 0, [], 0, 0)], 112),
  (112, [(112, .istore 4, [], 0, 0), (114, .iload_n 1, [], 0, 0), (115, .bipush 9, [], 9, 0), (117, .ishr, [], 0, 0), (118, .iconst 3, [], 3, 0), (119, .iand, [], 0, 0), (120, .lookupswitch 80 #[(0, 28), (1, 70)], [(148, 0), (190, 1), (200, 0)], 0, 28)], 148),
  (148, [(148, .aload_n 0, [], 0, 0), (149, .getfield 16, [], 0, 1), (152, .iload_n 3, [], 0, 0), (153, .aload_n 0, [], 0, 0), (154, .bipush 6, [], 6, 0), (156, .invokevirtual 163, [], 0, 0), (159, .ifCond .eq 16, [(175, 0)], 0, 0), (162, .aload_n 0, [], 0, 0), (163, .getfield 16, [], 0, 1), (166, .iload_n 3, [], 0, 0), (167, .iaload, [], 0, 0), (168, .iconst 1, [], 1, 0), (169, .iload_n 2, [], 0, 0), (170, .ishl, [], 0, 0), (171, .ior, [], 0, 0), (172, .goto 15, [(187, 0)], 0, 0)], 175),
  (175, [(175, .aload_n 0, [], 0, 0), (176, .getfield 16, [], 0, 1), (179, .iload_n 3, [], 0, 0), (180, .iaload, [], 0, 0), (181, .iconst 1, [], 1, 0), (182, .iload_n 2, [], 0, 0), (183, .ishl, [], 0, 0), (184, .iconst (-1), [], (-1), 0), (185, .ixor, [], 0, 0), (186, .iand, [], 0, 0)], 187),
  (187, [(187, .iastore, [], 0, 0), (188, .iconst 1, [], 1, 0), (189, .ireturn, [], 0, 0)], 190),
  (190, [(190, .aload_n 0, [], 0, 0), (191, .bipush 6, [], 6, 0), (193, .iload 4, [], 0, 0), (195, .invokevirtual 172, [], 0, 1), (198, .iconst 1, [], 1, 0), (199, .ireturn, [], 0, 0)], 200),
  (200, [(200, .iload 4, [], 0, 0), (202, .iload_n 1, [], 0, 0), (203, .bipush 9, [], 9, 0), (205, .ishr, [], 0, 0), (206, .iconst 1, [], 1, 0), (207, .iand, [], 0, 0), (208, .iconst 1, [], 1, 0), (209, .if_icmp .ne 7, [(216, 0)], 0, 0), (212, .iconst 1, [], 1, 0), (213, .goto 4, [(217, 0)], 0, 0)], 216),
  (216, [(216, .iconst 0, [], 0, 0)], 217),
  (217, [(217, .if_icmp .ne 12, [(229, 0)], 0, 0), (220, .iconst 1, [], 1, 0), (221, .aload_n 0, [], 0, 0), (222, .invokevirtual 299, [], 0, 2), (225, .iadd, [], 0, 0), (226, .goto 4, [(230, 0)], 0, 0)], 229),
  (229, [(229, .iconst 1, [], 1, 0)], 230),
  (230, [(230, .ireturn, [], 0, 0)], 231)]
def fdX9_bits : mFt := [(77, 12, 12, 1), (16, 12, 3, 0)]
def clX9_bits : mCt := [(163, 0, 1, 12, spX9_flag), (172, 0, 2, 12, spX9_setFlag), (299, 0, 0, 12, spX9_skips)]
def spX9_bits : mSp := mSpOf shM fdX9_bits clX9_bits bsX9_bits 2 (some .int)
abbrev rmX9_bits : Room := { frames := 3, cells := 0, slots := 0, locals := 64 }
abbrev wkX9_bits : List Jvm.Cond := .code yX9_bits cX9_bits 5 (some .int) :: wM
set_option maxRecDepth 100000 in
set_option maxHeartbeats 4000000 in
theorem metX9_bits (l : Launch) (D : va_G) (ad : Nat → Nat) (tc : Nat → ClassId) : mMet l D vwCl ad tc shM yX9_bits wkX9_bits rmX9_bits spX9_bits :=
  mMet_of (own := RX9) (ret := (some .int)) (Fd := fdX9_bits) (Cl := clX9_bits) (Ks := []) (Fi := [(77, 0), (16, 0)]) (Ci := [(163, 0), (172, 0), (299, 0)]) (bs := bsX9_bits) rfl (by decide +kernel) rfl (by decide +kernel)
    (List.forall_mem_cons.mpr ⟨⟨RX9, TX9, 39, rfl, by decide, fun w h => mIn (inM_X9 w h), mIn (mAt (i := 15) (by decide +kernel)), fun _ => ⟨tyX9, tyX9_ok, nmX9, rfl, by decide +kernel⟩⟩, List.forall_mem_cons.mpr ⟨⟨RX9, TX9, 39, rfl, by decide, fun w h => mIn (inM_X9 w h), mIn (mAt (i := 3) (by decide +kernel)), fun h => absurd h (by decide)⟩, fun _ h => absurd h List.not_mem_nil⟩⟩)
    (fun _ h => absurd h List.not_mem_nil)
    (List.forall_mem_cons.mpr ⟨Or.inl ⟨rfl, RX9, TX9, 39, yX9_flag, cX9_flag, 2, (some .boolean), wkX9_flag, _, rmX9_flag, rfl, mGoodV goodM (mAt (i := 7) (by decide +kernel)) (mAt (i := 9) (by decide +kernel)) (mAt (i := 10) (by decide +kernel)) (mAt (i := 8) (by decide +kernel)) (mAt (i := 4) (by decide +kernel)), rfl, rfl, rfl, by decide +kernel, by decide, metX9_flag l D ad tc⟩, List.forall_mem_cons.mpr ⟨Or.inl ⟨rfl, RX9, TX9, 39, yX9_setFlag, cX9_setFlag, 3, none, wkX9_setFlag, _, rmX9_setFlag, rfl, mGoodV goodM (mAt (i := 47) (by decide +kernel)) (mAt (i := 48) (by decide +kernel)) (mAt (i := 49) (by decide +kernel)) (mAt (i := 8) (by decide +kernel)) (mAt (i := 45) (by decide +kernel)), rfl, rfl, rfl, by decide +kernel, by decide, metX9_setFlag l D ad tc⟩, List.forall_mem_cons.mpr ⟨Or.inl ⟨rfl, RX9, TX9, 39, yX9_skips, cX9_skips, 2, (some .int), wkX9_skips, _, rmX9_skips, rfl, mGoodV goodM (mAt (i := 72) (by decide +kernel)) (mAt (i := 73) (by decide +kernel)) (mAt (i := 74) (by decide +kernel)) (mAt (i := 8) (by decide +kernel)) (mAt (i := 63) (by decide +kernel)), rfl, rfl, rfl, by decide +kernel, by decide, metX9_skips l D ad tc⟩, fun _ h => absurd h List.not_mem_nil⟩⟩⟩) rfl rfl (by decide +kernel) (by decide) (by decide)
-- FlashBoardModel.burnt
def bsX9_burnt : List mBl := [(0, [(0, .iload_n 2, [], 0, 0), (1, .istore 4, [], 0, 0), (3, .iload_n 1, [], 0, 0), (4, .iload 4, [], 0, 0), (6, .iadd, [], 0, 0), (7, .sipush 2048, [], 2048, 0), (10, .if_icmp .ge 19, [(29, 0)], 0, 0), (13, .aload_n 0, [], 0, 0), (14, .getfield 7, [], 0, 0), (17, .iload_n 1, [], 0, 0), (18, .iload 4, [], 0, 0), (20, .iadd, [], 0, 0), (21, .iload_n 3, [], 0, 0), (22, .bipush 16, [], 16, 0), (24, .iushr, [], 0, 0), (25, .iastore, [], 0, 0), (26, .iinc 4 1, [], 1, 0)], 29),
  (29, [(29, .iload_n 1, [], 0, 0), (30, .iload 4, [], 0, 0), (32, .iadd, [], 0, 0), (33, .sipush 2048, [], 2048, 0), (36, .if_icmp .ge 19, [(55, 0)], 0, 0), (39, .aload_n 0, [], 0, 0), (40, .getfield 7, [], 0, 0), (43, .iload_n 1, [], 0, 0), (44, .iload 4, [], 0, 0), (46, .iadd, [], 0, 0), (47, .iload_n 3, [], 0, 0), (48, .ldc 43, [], 65535, 0), (50, .iand, [], 0, 0), (51, .iastore, [], 0, 0), (52, .iinc 4 1, [], 1, 0)], 55),
  (55, [(55, .iload 4, [], 0, 0), (57, .ireturn, [], 0, 0)], 58)]
def fdX9_burnt : mFt := [(7, 12, 1, 0)]
def clX9_burnt : mCt := []
def spX9_burnt : mSp := mSpOf shM fdX9_burnt clX9_burnt bsX9_burnt 4 (some .int)
abbrev rmX9_burnt : Room := { frames := 0, cells := 0, slots := 0, locals := 0 }
abbrev wkX9_burnt : List Jvm.Cond := .code yX9_burnt cX9_burnt 5 (some .int) :: wM
set_option maxRecDepth 100000 in
set_option maxHeartbeats 4000000 in
theorem metX9_burnt (l : Launch) (D : va_G) (ad : Nat → Nat) (tc : Nat → ClassId) : mMet l D vwCl ad tc shM yX9_burnt wkX9_burnt rmX9_burnt spX9_burnt :=
  mMet_of (own := RX9) (ret := (some .int)) (Fd := fdX9_burnt) (Cl := clX9_burnt) (Ks := [(43, 65535)]) (Fi := [(7, 0)]) (Ci := []) (bs := bsX9_burnt) rfl (by decide +kernel) rfl (by decide +kernel)
    (List.forall_mem_cons.mpr ⟨⟨RX9, TX9, 39, rfl, by decide, fun w h => mIn (inM_X9 w h), mIn (mAt (i := 57) (by decide +kernel)), fun h => absurd h (by decide)⟩, fun _ h => absurd h List.not_mem_nil⟩)
    (List.forall_mem_cons.mpr ⟨mIn (mAt (i := 58) (by decide +kernel)), fun _ h => absurd h List.not_mem_nil⟩)
    (fun _ h => absurd h List.not_mem_nil) rfl rfl (by decide +kernel) (by decide) (by decide)
-- FlashBoardModel.burn
def bsX9_burn : List mBl := [(0, [(0, .aload_n 0, [], 0, 0), (1, .iload_n 1, [], 0, 0), (2, .ifCond .lt 14, [(16, 0)], 0, 0), (5, .iload_n 1, [], 0, 0), (6, .sipush 2048, [], 2048, 0), (9, .if_icmp .ge 7, [(16, 0)], 0, 0), (12, .iconst 1, [], 1, 0), (13, .goto 4, [(17, 0)], 0, 0)], 16),
  (16, [(16, .iconst 0, [], 0, 0)], 17),
  (17, [(17, .invokevirtual 359, [], 0, 0), (20, .ifCond .ne 5, [(25, 0)], 0, 0), (23, .iconst 0, [], 0, 0), (24, .ireturn, [], 0, 0)], 25),
  (25, [(25, .aload_n 0, [], 0, 0), (26, .iload_n 1, [], 0, 0), (27, .iconst 0, [], 0, 0), (28, .iload_n 2, [], 0, 0), (29, .invokevirtual 364, [], 0, 1), (32, .istore 7, [], 0, 0), (34, .aload_n 0, [], 0, 0), (35, .iload_n 1, [], 0, 0), (36, .iload 7, [], 0, 0), (38, .iload_n 3, [], 0, 0), (39, .invokevirtual 364, [], 0, 1), (42, .istore 7, [], 0, 0), (44, .aload_n 0, [], 0, 0), (45, .iload_n 1, [], 0, 0), (46, .iload 7, [], 0, 0), (48, .iload 4, [], 0, 0), (50, .invokevirtual 364, [], 0, 1), (53, .istore 7, [], 0, 0), (55, .aload_n 0, [], 0, 0), (56, .iload_n 1, [], 0, 0), (57, .iload 7, [], 0, 0), (59, .iload 5, [], 0, 0), (61, .invokevirtual 364, [], 0, 1), (64, .istore 7, [], 0, 0), (66, .aload_n 0, [], 0, 0), (67, .iload_n 1, [], 0, 0), (68, .iload 7, [], 0, 0), (70, .iload 6, [], 0, 0), (72, .invokevirtual 364, [], 0, 1), (75, .ireturn, [], 0, 0)], 76)]
def fdX9_burn : mFt := []
def clX9_burn : mCt := [(359, 0, 1, 12, spX9_right), (364, 0, 3, 12, spX9_burnt)]
def spX9_burn : mSp := mSpOf shM fdX9_burn clX9_burn bsX9_burn 7 (some .int)
abbrev rmX9_burn : Room := { frames := 1, cells := 0, slots := 0, locals := 24 }
abbrev wkX9_burn : List Jvm.Cond := .code yX9_burn cX9_burn 8 (some .int) :: wM
set_option maxRecDepth 100000 in
set_option maxHeartbeats 4000000 in
theorem metX9_burn (l : Launch) (D : va_G) (ad : Nat → Nat) (tc : Nat → ClassId) : mMet l D vwCl ad tc shM yX9_burn wkX9_burn rmX9_burn spX9_burn :=
  mMet_of (own := RX9) (ret := (some .int)) (Fd := fdX9_burn) (Cl := clX9_burn) (Ks := []) (Fi := []) (Ci := [(359, 0), (364, 0)]) (bs := bsX9_burn) rfl (by decide +kernel) rfl (by decide +kernel)
    (fun _ h => absurd h List.not_mem_nil)
    (fun _ h => absurd h List.not_mem_nil)
    (List.forall_mem_cons.mpr ⟨Or.inl ⟨rfl, RX9, TX9, 39, yX9_right, cX9_right, 2, (some .boolean), wkX9_right, _, rmX9_right, rfl, mGoodV goodM (mAt (i := 35) (by decide +kernel)) (mAt (i := 36) (by decide +kernel)) (mAt (i := 37) (by decide +kernel)) (mAt (i := 8) (by decide +kernel)) (mAt (i := 0) (by decide +kernel)), rfl, rfl, rfl, by decide +kernel, by decide, metX9_right l D ad tc⟩, List.forall_mem_cons.mpr ⟨Or.inl ⟨rfl, RX9, TX9, 39, yX9_burnt, cX9_burnt, 5, (some .int), wkX9_burnt, _, rmX9_burnt, rfl, mGoodV goodM (mAt (i := 77) (by decide +kernel)) (mAt (i := 78) (by decide +kernel)) (mAt (i := 79) (by decide +kernel)) (mAt (i := 8) (by decide +kernel)) (mAt (i := 75) (by decide +kernel)), rfl, rfl, rfl, by decide +kernel, by decide, metX9_burnt l D ad tc⟩, fun _ h => absurd h List.not_mem_nil⟩⟩) rfl rfl (by decide +kernel) (by decide) (by decide)
-- FlashBoardModel.carry
def bsX9_carry : List mBl := [(0, [(0, .aload_n 0, [], 0, 0), (1, .getfield 16, [], 0, 0), (4, .bipush 95, [], 95, 0), (6, .iaload, [], 0, 0), (7, .iconst 1, [], 1, 0), (8, .iand, [], 0, 0), (9, .ireturn, [], 0, 0)], 10)]
def fdX9_carry : mFt := [(16, 12, 3, 0)]
def clX9_carry : mCt := []
def spX9_carry : mSp := mSpOf shM fdX9_carry clX9_carry bsX9_carry 1 (some .int)
abbrev rmX9_carry : Room := { frames := 0, cells := 0, slots := 0, locals := 0 }
abbrev wkX9_carry : List Jvm.Cond := .code yX9_carry cX9_carry 1 (some .int) :: wM
set_option maxRecDepth 100000 in
set_option maxHeartbeats 4000000 in
theorem metX9_carry (l : Launch) (D : va_G) (ad : Nat → Nat) (tc : Nat → ClassId) : mMet l D vwCl ad tc shM yX9_carry wkX9_carry rmX9_carry spX9_carry :=
  mMet_of (own := RX9) (ret := (some .int)) (Fd := fdX9_carry) (Cl := clX9_carry) (Ks := []) (Fi := [(16, 0)]) (Ci := []) (bs := bsX9_carry) rfl (by decide +kernel) rfl (by decide +kernel)
    (List.forall_mem_cons.mpr ⟨⟨RX9, TX9, 39, rfl, by decide, fun w h => mIn (inM_X9 w h), mIn (mAt (i := 3) (by decide +kernel)), fun h => absurd h (by decide)⟩, fun _ h => absurd h List.not_mem_nil⟩)
    (fun _ h => absurd h List.not_mem_nil)
    (fun _ h => absurd h List.not_mem_nil) rfl rfl (by decide +kernel) (by decide) (by decide)
-- FlashBoardModel.clearBuffer
def bsX9_clearBuffer : List mBl := [(0, [(0, .iconst 0, [], 0, 0), (1, .istore_n 1, [], 0, 0)], 2),
  (2, [(2, .iload_n 1, [], 0, 0), (3, .bipush 32, [], 32, 0), (5, .if_icmp .ge 16, [(21, 0)], 0, 0), (8, .aload_n 0, [], 0, 0), (9, .getfield 22, [], 0, 0), (12, .iload_n 1, [], 0, 0), (13, .iconst 0, [], 0, 0), (14, .bastore, [], 0, 0), (15, .iinc 1 1, [], 1, 0), (18, .goto (-16), [(2, 0)], 0, 0)], 21),
  (21, [(21, .return_, [], 0, 0)], 22)]
def fdX9_clearBuffer : mFt := [(22, 12, 5, 0)]
def clX9_clearBuffer : mCt := []
def spX9_clearBuffer : mSp := mSpOf shM fdX9_clearBuffer clX9_clearBuffer bsX9_clearBuffer 1 none
abbrev rmX9_clearBuffer : Room := { frames := 0, cells := 0, slots := 0, locals := 0 }
abbrev wkX9_clearBuffer : List Jvm.Cond := .code yX9_clearBuffer cX9_clearBuffer 2 none :: wM
set_option maxRecDepth 100000 in
set_option maxHeartbeats 4000000 in
theorem metX9_clearBuffer (l : Launch) (D : va_G) (ad : Nat → Nat) (tc : Nat → ClassId) : mMet l D vwCl ad tc shM yX9_clearBuffer wkX9_clearBuffer rmX9_clearBuffer spX9_clearBuffer :=
  mMet_of (own := RX9) (ret := none) (Fd := fdX9_clearBuffer) (Cl := clX9_clearBuffer) (Ks := []) (Fi := [(22, 0)]) (Ci := []) (bs := bsX9_clearBuffer) rfl (by decide +kernel) rfl (by decide +kernel)
    (List.forall_mem_cons.mpr ⟨⟨RX9, TX9, 39, rfl, by decide, fun w h => mIn (inM_X9 w h), mIn (mAt (i := 22) (by decide +kernel)), fun h => absurd h (by decide)⟩, fun _ h => absurd h List.not_mem_nil⟩)
    (fun _ h => absurd h List.not_mem_nil)
    (fun _ h => absurd h List.not_mem_nil) rfl rfl (by decide +kernel) (by decide) (by decide)
-- FlashBoardModel.seen
def bsX9_seen : List mBl := [(0, [(0, .iload_n 1, [], 0, 0), (1, .ifCond .lt 10, [(11, 0)], 0, 0), (4, .iload_n 1, [], 0, 0), (5, .sipush 1280, [], 1280, 0), (8, .if_icmp .lt 5, [(13, 0)], 0, 0)], 11),
  (11, [(11, .iconst 0, [], 0, 0), (12, .ireturn, [], 0, 0)], 13),
  (13, [(13, .iload_n 1, [], 0, 0), (14, .sipush 198, [], 198, 0), (17, .if_icmp .ne 19, [(36, 0)], 0, 0), (20, .aload_n 0, [], 0, 0), (21, .getfield 119, [], 0, 0), (24, .ifCond .le 10, [(34, 0)], 0, 0), (27, .aload_n 0, [], 0, 0), (28, .getfield 128, [], 0, 1), (31, .goto 4, [(35, 0)], 0, 0)], 34),
  (34, [(34, .iconst 0, [], 0, 0)], 35),
  (35, [(35, .ireturn, [], 0, 0)], 36),
  (36, [(36, .iload_n 1, [], 0, 0), (37, .bipush 35, [], 35, 0), (39, .if_icmp .ne 38, [(77, 0)], 0, 0), (42, .aload_n 0, [], 0, 0), (43, .getfield 16, [], 0, 2), (46, .bipush 37, [], 37, 0), (48, .iaload, [], 0, 0), (49, .aload_n 0, [], 0, 0), (50, .getfield 16, [], 0, 2), (53, .bipush 36, [], 36, 0), (55, .iaload, [], 0, 0), (56, .iand, [], 0, 0), (57, .aload_n 0, [], 0, 0), (58, .getfield 131, [], 0, 3), (61, .aload_n 0, [], 0, 0), (62, .getfield 16, [], 0, 2), (65, .bipush 36, [], 36, 0), (67, .iaload, [], 0, 0), (68, .iconst (-1), [], (-1), 0), (69, .ixor, [], 0, 0), (70, .iand, [], 0, 0), (71, .sipush 255, [], 255, 0), (74, .iand, [], 0, 0), (75, .ior, [], 0, 0), (76, .ireturn, [], 0, 0)], 77),
  (77, [(77, .iload_n 1, [], 0, 0), (78, .bipush 63, [], 63, 0), (80, .if_icmp .ne 17, [(97, 0)], 0, 0), (83, .aload_n 0, [], 0, 0), (84, .getfield 16, [], 0, 2), (87, .bipush 63, [], 63, 0), (89, .iaload, [], 0, 0), (90, .sipush 254, [], 254, 0), (93, .iand, [], 0, 0), (94, .goto 9, [(103, 0)], 0, 0)], 97),
  (97, [(97, .aload_n 0, [], 0, 0), (98, .getfield 16, [], 0, 2), (101, .iload_n 1, [], 0, 0), (102, .iaload, [], 0, 0)], 103),
  (103, [(103, .ireturn, [], 0, 0)], 104)]
def fdX9_seen : mFt := [(119, 12, 32, 1), (128, 12, 30, 1), (16, 12, 3, 0), (131, 12, 8, 1)]
def clX9_seen : mCt := []
def spX9_seen : mSp := mSpOf shM fdX9_seen clX9_seen bsX9_seen 2 (some .int)
abbrev rmX9_seen : Room := { frames := 0, cells := 0, slots := 0, locals := 0 }
abbrev wkX9_seen : List Jvm.Cond := .code yX9_seen cX9_seen 2 (some .int) :: wM
set_option maxRecDepth 100000 in
set_option maxHeartbeats 4000000 in
theorem metX9_seen (l : Launch) (D : va_G) (ad : Nat → Nat) (tc : Nat → ClassId) : mMet l D vwCl ad tc shM yX9_seen wkX9_seen rmX9_seen spX9_seen :=
  mMet_of (own := RX9) (ret := (some .int)) (Fd := fdX9_seen) (Cl := clX9_seen) (Ks := []) (Fi := [(119, 0), (128, 0), (16, 0), (131, 0)]) (Ci := []) (bs := bsX9_seen) rfl (by decide +kernel) rfl (by decide +kernel)
    (List.forall_mem_cons.mpr ⟨⟨RX9, TX9, 39, rfl, by decide, fun w h => mIn (inM_X9 w h), mIn (mAt (i := 26) (by decide +kernel)), fun _ => ⟨tyX9, tyX9_ok, nmX9, rfl, by decide +kernel⟩⟩, List.forall_mem_cons.mpr ⟨⟨RX9, TX9, 39, rfl, by decide, fun w h => mIn (inM_X9 w h), mIn (mAt (i := 83) (by decide +kernel)), fun _ => ⟨tyX9, tyX9_ok, nmX9, rfl, by decide +kernel⟩⟩, List.forall_mem_cons.mpr ⟨⟨RX9, TX9, 39, rfl, by decide, fun w h => mIn (inM_X9 w h), mIn (mAt (i := 3) (by decide +kernel)), fun h => absurd h (by decide)⟩, List.forall_mem_cons.mpr ⟨⟨RX9, TX9, 39, rfl, by decide, fun w h => mIn (inM_X9 w h), mIn (mAt (i := 84) (by decide +kernel)), fun _ => ⟨tyX9, tyX9_ok, nmX9, rfl, by decide +kernel⟩⟩, fun _ h => absurd h List.not_mem_nil⟩⟩⟩⟩)
    (fun _ h => absurd h List.not_mem_nil)
    (fun _ h => absurd h List.not_mem_nil) rfl rfl (by decide +kernel) (by decide) (by decide)
-- FlashBoardModel.data
def bsX9_data : List mBl := [(0, [(0, .aload_n 0, [], 0, 0), (1, .iload_n 1, [], 0, 0), (2, .ifCond .lt 14, [(16, 0)], 0, 0), (5, .iload_n 1, [], 0, 0), (6, .sipush 1280, [], 1280, 0), (9, .if_icmp .ge 7, [(16, 0)], 0, 0), (12, .iconst 1, [], 1, 0), (13, .goto 4, [(17, 0)], 0, 0)], 16),
  (16, [(16, .iconst 0, [], 0, 0)], 17),
  (17, [(17, .invokevirtual 359, [], 0, 0), (20, .ifCond .eq 11, [(31, 0)], 0, 0), (23, .aload_n 0, [], 0, 0), (24, .iload_n 1, [], 0, 0), (25, .invokevirtual 134, [], 0, 1), (28, .goto 4, [(32, 0)], 0, 0)], 31),
  (31, [(31, .iconst 0, [], 0, 0)], 32),
  (32, [(32, .ireturn, [], 0, 0)], 33)]
def fdX9_data : mFt := []
def clX9_data : mCt := [(359, 0, 1, 12, spX9_right), (134, 0, 1, 12, spX9_seen)]
def spX9_data : mSp := mSpOf shM fdX9_data clX9_data bsX9_data 2 (some .int)
abbrev rmX9_data : Room := { frames := 1, cells := 0, slots := 0, locals := 21 }
abbrev wkX9_data : List Jvm.Cond := .code yX9_data cX9_data 2 (some .int) :: wM
set_option maxRecDepth 100000 in
set_option maxHeartbeats 4000000 in
theorem metX9_data (l : Launch) (D : va_G) (ad : Nat → Nat) (tc : Nat → ClassId) : mMet l D vwCl ad tc shM yX9_data wkX9_data rmX9_data spX9_data :=
  mMet_of (own := RX9) (ret := (some .int)) (Fd := fdX9_data) (Cl := clX9_data) (Ks := []) (Fi := []) (Ci := [(359, 0), (134, 0)]) (bs := bsX9_data) rfl (by decide +kernel) rfl (by decide +kernel)
    (fun _ h => absurd h List.not_mem_nil)
    (fun _ h => absurd h List.not_mem_nil)
    (List.forall_mem_cons.mpr ⟨Or.inl ⟨rfl, RX9, TX9, 39, yX9_right, cX9_right, 2, (some .boolean), wkX9_right, _, rmX9_right, rfl, mGoodV goodM (mAt (i := 35) (by decide +kernel)) (mAt (i := 36) (by decide +kernel)) (mAt (i := 37) (by decide +kernel)) (mAt (i := 8) (by decide +kernel)) (mAt (i := 0) (by decide +kernel)), rfl, rfl, rfl, by decide +kernel, by decide, metX9_right l D ad tc⟩, List.forall_mem_cons.mpr ⟨Or.inl ⟨rfl, RX9, TX9, 39, yX9_seen, cX9_seen, 2, (some .int), wkX9_seen, _, rmX9_seen, rfl, mGoodV goodM (mAt (i := 86) (by decide +kernel)) (mAt (i := 87) (by decide +kernel)) (mAt (i := 88) (by decide +kernel)) (mAt (i := 8) (by decide +kernel)) (mAt (i := 82) (by decide +kernel)), rfl, rfl, rfl, by decide +kernel, by decide, metX9_seen l D ad tc⟩, fun _ h => absurd h List.not_mem_nil⟩⟩) rfl rfl (by decide +kernel) (by decide) (by decide)
-- FlashBoardModel.holds
def bsX9_holds : List mBl := [(0, [(0, .iload_n 0, [], 0, 0), (1, .lookupswitch 149 #[(36, 147), (37, 147), (62, 147), (68, 147), (69, 147), (70, 147), (71, 147), (74, 147), (75, 147), (93, 147), (94, 147), (95, 147), (110, 147), (193, 147), (194, 147), (196, 147), (197, 147)], [(148, 36), (148, 37), (148, 62), (148, 68), (148, 69), (148, 70), (148, 71), (148, 74), (148, 75), (148, 93), (148, 94), (148, 95), (148, 110), (148, 193), (148, 194), (148, 196), (148, 197), (150, 0)], 0, 147)], 148),
  (148, [(148, .iconst 1, [], 1, 0), (149, .ireturn, [], 0, 0)], 150),
  (150, [(150, .iload_n 0, [], 0, 0), (151, .bipush 32, [], 32, 0), (153, .if_icmp .lt 17, [(170, 0)], 0, 0), (156, .iload_n 0, [], 0, 0), (157, .sipush 256, [], 256, 0), (160, .if_icmp .lt 14, [(174, 0)], 0, 0), (163, .iload_n 0, [], 0, 0), (164, .sipush 1280, [], 1280, 0), (167, .if_icmp .ge 7, [(174, 0)], 0, 0)], 170),
  (170, [(170, .iconst 1, [], 1, 0), (171, .goto 4, [(175, 0)], 0, 0)], 174),
  (174, [(174, .iconst 0, [], 0, 0)], 175),
  (175, [(175, .ireturn, [], 0, 0)], 176)]
def fdX9_holds : mFt := []
def clX9_holds : mCt := []
def spX9_holds : mSp := mSpOf shM fdX9_holds clX9_holds bsX9_holds 1 (some .boolean)
abbrev rmX9_holds : Room := { frames := 0, cells := 0, slots := 0, locals := 0 }
abbrev wkX9_holds : List Jvm.Cond := .code yX9_holds cX9_holds 1 (some .boolean) :: wM
set_option maxRecDepth 100000 in
set_option maxHeartbeats 4000000 in
theorem metX9_holds (l : Launch) (D : va_G) (ad : Nat → Nat) (tc : Nat → ClassId) : mMet l D vwCl ad tc shM yX9_holds wkX9_holds rmX9_holds spX9_holds :=
  mMet_of (own := RX9) (ret := (some .boolean)) (Fd := fdX9_holds) (Cl := clX9_holds) (Ks := []) (Fi := []) (Ci := []) (bs := bsX9_holds) rfl (by decide +kernel) rfl (by decide +kernel)
    (fun _ h => absurd h List.not_mem_nil)
    (fun _ h => absurd h List.not_mem_nil)
    (fun _ h => absurd h List.not_mem_nil) rfl rfl (by decide +kernel) (by decide) (by decide)
-- FlashBoardModel.storeRom
def bsX9_storeRom : List mBl := [(0, [(0, .aload_n 0, [], 0, 0), (1, .getfield 16, [], 0, 0), (4, .bipush 63, [], 63, 0), (6, .iaload, [], 0, 0), (7, .iconst 4, [], 4, 0), (8, .iand, [], 0, 0), (9, .ifCond .eq 7, [(16, 0)], 0, 0), (12, .iconst 1, [], 1, 0), (13, .goto 4, [(17, 0)], 0, 0)], 16),
  (16, [(16, .iconst 0, [], 0, 0)], 17),
  (17, [(17, .istore_n 2, [], 0, 0), (18, .aload_n 0, [], 0, 0), (19, .getfield 16, [], 0, 0), (22, .bipush 63, [], 63, 0), (24, .aload_n 0, [], 0, 0), (25, .getfield 16, [], 0, 0), (28, .bipush 63, [], 63, 0), (30, .iaload, [], 0, 0), (31, .sipush 247, [], 247, 0), (34, .iand, [], 0, 0), (35, .iload_n 1, [], 0, 0), (36, .bipush 8, [], 8, 0), (38, .iand, [], 0, 0), (39, .ior, [], 0, 0), (40, .iastore, [], 0, 0), (41, .iload_n 1, [], 0, 0), (42, .iconst 4, [], 4, 0), (43, .iand, [], 0, 0), (44, .ifCond .eq 19, [(63, 0)], 0, 0), (47, .aload_n 0, [], 0, 0), (48, .getfield 16, [], 0, 0), (51, .bipush 63, [], 63, 0), (53, .dup2, [], 0, 0), (54, .iaload, [], 0, 0), (55, .iconst 4, [], 4, 0), (56, .ior, [], 0, 0), (57, .iastore, [], 0, 0), (58, .aload_n 0, [], 0, 0), (59, .iconst 4, [], 4, 0), (60, .putfield 107, [], 0, 1)], 63),
  (63, [(63, .iload_n 1, [], 0, 0), (64, .iconst 2, [], 2, 0), (65, .iand, [], 0, 0), (66, .ifCond .eq 70, [(136, 0)], 0, 0), (69, .iload_n 2, [], 0, 0), (70, .ifCond .eq 66, [(136, 0)], 0, 0), (73, .aload_n 0, [], 0, 0), (74, .getfield 16, [], 0, 0), (77, .bipush 63, [], 63, 0), (79, .iaload, [], 0, 0), (80, .iconst 2, [], 2, 0), (81, .iand, [], 0, 0), (82, .ifCond .ne 54, [(136, 0)], 0, 0), (85, .aload_n 0, [], 0, 0), (86, .getfield 19, [], 0, 2), (89, .aload_n 0, [], 0, 0), (90, .getfield 16, [], 0, 0), (93, .bipush 65, [], 65, 0), (95, .iaload, [], 0, 0), (96, .aload_n 0, [], 0, 0), (97, .getfield 16, [], 0, 0), (100, .bipush 64, [], 64, 0), (102, .iaload, [], 0, 0), (103, .iastore, [], 0, 0), (104, .aload_n 0, [], 0, 0), (105, .getfield 16, [], 0, 0), (108, .bipush 63, [], 63, 0), (110, .aload_n 0, [], 0, 0), (111, .getfield 16, [], 0, 0), (114, .bipush 63, [], 63, 0), (116, .iaload, [], 0, 0), (117, .sipush 251, [], 251, 0), (120, .iand, [], 0, 0), (121, .iconst 2, [], 2, 0), (122, .ior, [], 0, 0), (123, .iastore, [], 0, 0), (124, .aload_n 0, [], 0, 0), (125, .iconst 0, [], 0, 0), (126, .putfield 107, [], 0, 1), (129, .aload_n 0, [], 0, 0), (130, .sipush 3400, [], 3400, 0), (133, .putfield 95, [], 0, 3)], 136),
  (136, [(136, .iload_n 1, [], 0, 0), (137, .iconst 1, [], 1, 0), (138, .iand, [], 0, 0), (139, .ifCond .eq 44, [(183, 0)], 0, 0), (142, .aload_n 0, [], 0, 0), (143, .getfield 16, [], 0, 0), (146, .bipush 63, [], 63, 0), (148, .iaload, [], 0, 0), (149, .iconst 2, [], 2, 0), (150, .iand, [], 0, 0), (151, .ifCond .ne 32, [(183, 0)], 0, 0), (154, .aload_n 0, [], 0, 0), (155, .getfield 16, [], 0, 0), (158, .bipush 64, [], 64, 0), (160, .aload_n 0, [], 0, 0), (161, .getfield 19, [], 0, 2), (164, .aload_n 0, [], 0, 0), (165, .getfield 16, [], 0, 0), (168, .bipush 65, [], 65, 0), (170, .iaload, [], 0, 0), (171, .iaload, [], 0, 0), (172, .iastore, [], 0, 0), (173, .aload_n 0, [], 0, 0), (174, .dup, [], 0, 0), (175, .getfield 160, [], 0, 4), (178, .iconst 4, [], 4, 0), (179, .iadd, [], 0, 0), (180, .putfield 160, [], 0, 4)], 183),
  (183, [(183, .return_, [], 0, 0)], 184)]
def fdX9_storeRom : mFt := [(16, 12, 3, 0), (107, 12, 24, 1), (19, 12, 4, 0), (95, 12, 20, 1), (160, 12, 37, 1)]
def clX9_storeRom : mCt := []
def spX9_storeRom : mSp := mSpOf shM fdX9_storeRom clX9_storeRom bsX9_storeRom 2 none
abbrev rmX9_storeRom : Room := { frames := 0, cells := 0, slots := 0, locals := 0 }
abbrev wkX9_storeRom : List Jvm.Cond := .code yX9_storeRom cX9_storeRom 3 none :: wM
set_option maxRecDepth 100000 in
set_option maxHeartbeats 4000000 in
theorem metX9_storeRom (l : Launch) (D : va_G) (ad : Nat → Nat) (tc : Nat → ClassId) : mMet l D vwCl ad tc shM yX9_storeRom wkX9_storeRom rmX9_storeRom spX9_storeRom :=
  mMet_of (own := RX9) (ret := none) (Fd := fdX9_storeRom) (Cl := clX9_storeRom) (Ks := []) (Fi := [(16, 0), (107, 0), (19, 0), (95, 0), (160, 0)]) (Ci := []) (bs := bsX9_storeRom) rfl (by decide +kernel) rfl (by decide +kernel)
    (List.forall_mem_cons.mpr ⟨⟨RX9, TX9, 39, rfl, by decide, fun w h => mIn (inM_X9 w h), mIn (mAt (i := 3) (by decide +kernel)), fun h => absurd h (by decide)⟩, List.forall_mem_cons.mpr ⟨⟨RX9, TX9, 39, rfl, by decide, fun w h => mIn (inM_X9 w h), mIn (mAt (i := 33) (by decide +kernel)), fun _ => ⟨tyX9, tyX9_ok, nmX9, rfl, by decide +kernel⟩⟩, List.forall_mem_cons.mpr ⟨⟨RX9, TX9, 39, rfl, by decide, fun w h => mIn (inM_X9 w h), mIn (mAt (i := 91) (by decide +kernel)), fun h => absurd h (by decide)⟩, List.forall_mem_cons.mpr ⟨⟨RX9, TX9, 39, rfl, by decide, fun w h => mIn (inM_X9 w h), mIn (mAt (i := 29) (by decide +kernel)), fun _ => ⟨tyX9, tyX9_ok, nmX9, rfl, by decide +kernel⟩⟩, List.forall_mem_cons.mpr ⟨⟨RX9, TX9, 39, rfl, by decide, fun w h => mIn (inM_X9 w h), mIn (mAt (i := 92) (by decide +kernel)), fun _ => ⟨tyX9, tyX9_ok, nmX9, rfl, by decide +kernel⟩⟩, fun _ h => absurd h List.not_mem_nil⟩⟩⟩⟩⟩)
    (fun _ h => absurd h List.not_mem_nil)
    (fun _ h => absurd h List.not_mem_nil) rfl rfl (by decide +kernel) (by decide) (by decide)
-- FlashBoardModel.storeVectors
def bsX9_storeVectors : List mBl := [(0, [(0, .iload_n 1, [], 0, 0), (1, .iconst 1, [], 1, 0), (2, .iand, [], 0, 0), (3, .ifCond .eq 20, [(23, 0)], 0, 0), (6, .aload_n 0, [], 0, 0), (7, .getfield 16, [], 0, 0), (10, .bipush 85, [], 85, 0), (12, .dup2, [], 0, 0), (13, .iaload, [], 0, 0), (14, .iconst 1, [], 1, 0), (15, .ior, [], 0, 0), (16, .iastore, [], 0, 0), (17, .aload_n 0, [], 0, 0), (18, .iconst 4, [], 4, 0), (19, .putfield 104, [], 0, 1), (22, .return_, [], 0, 0)], 23),
  (23, [(23, .aload_n 0, [], 0, 0), (24, .getfield 16, [], 0, 0), (27, .bipush 85, [], 85, 0), (29, .iaload, [], 0, 0), (30, .iconst 1, [], 1, 0), (31, .iand, [], 0, 0), (32, .ifCond .eq 18, [(50, 0)], 0, 0), (35, .aload_n 0, [], 0, 0), (36, .getfield 16, [], 0, 0), (39, .bipush 85, [], 85, 0), (41, .iload_n 1, [], 0, 0), (42, .iconst 2, [], 2, 0), (43, .iand, [], 0, 0), (44, .iastore, [], 0, 0), (45, .aload_n 0, [], 0, 0), (46, .iconst 0, [], 0, 0), (47, .putfield 104, [], 0, 1)], 50),
  (50, [(50, .return_, [], 0, 0)], 51)]
def fdX9_storeVectors : mFt := [(16, 12, 3, 0), (104, 12, 23, 1)]
def clX9_storeVectors : mCt := []
def spX9_storeVectors : mSp := mSpOf shM fdX9_storeVectors clX9_storeVectors bsX9_storeVectors 2 none
abbrev rmX9_storeVectors : Room := { frames := 0, cells := 0, slots := 0, locals := 0 }
abbrev wkX9_storeVectors : List Jvm.Cond := .code yX9_storeVectors cX9_storeVectors 2 none :: wM
set_option maxRecDepth 100000 in
set_option maxHeartbeats 4000000 in
theorem metX9_storeVectors (l : Launch) (D : va_G) (ad : Nat → Nat) (tc : Nat → ClassId) : mMet l D vwCl ad tc shM yX9_storeVectors wkX9_storeVectors rmX9_storeVectors spX9_storeVectors :=
  mMet_of (own := RX9) (ret := none) (Fd := fdX9_storeVectors) (Cl := clX9_storeVectors) (Ks := []) (Fi := [(16, 0), (104, 0)]) (Ci := []) (bs := bsX9_storeVectors) rfl (by decide +kernel) rfl (by decide +kernel)
    (List.forall_mem_cons.mpr ⟨⟨RX9, TX9, 39, rfl, by decide, fun w h => mIn (inM_X9 w h), mIn (mAt (i := 3) (by decide +kernel)), fun h => absurd h (by decide)⟩, List.forall_mem_cons.mpr ⟨⟨RX9, TX9, 39, rfl, by decide, fun w h => mIn (inM_X9 w h), mIn (mAt (i := 32) (by decide +kernel)), fun _ => ⟨tyX9, tyX9_ok, nmX9, rfl, by decide +kernel⟩⟩, fun _ h => absurd h List.not_mem_nil⟩⟩)
    (fun _ h => absurd h List.not_mem_nil)
    (fun _ h => absurd h List.not_mem_nil) rfl rfl (by decide +kernel) (by decide) (by decide)
-- FlashBoardModel.storeFlash
def bsX9_storeFlash : List mBl := [(0, [(0, .aload_n 0, [], 0, 0), (1, .getfield 86, [], 0, 0), (4, .ifCond .le 27, [(31, 0)], 0, 0), (7, .aload_n 0, [], 0, 0), (8, .getfield 16, [], 0, 1), (11, .bipush 87, [], 87, 0), (13, .aload_n 0, [], 0, 0), (14, .getfield 16, [], 0, 1), (17, .bipush 87, [], 87, 0), (19, .iaload, [], 0, 0), (20, .bipush 127, [], 127, 0), (22, .iand, [], 0, 0), (23, .iload_n 1, [], 0, 0), (24, .sipush 128, [], 128, 0), (27, .iand, [], 0, 0), (28, .ior, [], 0, 0), (29, .iastore, [], 0, 0), (30, .return_, [], 0, 0)], 31),
  (31, [(31, .aload_n 0, [], 0, 0), (32, .getfield 16, [], 0, 1), (35, .bipush 87, [], 87, 0), (37, .aload_n 0, [], 0, 0), (38, .getfield 16, [], 0, 1), (41, .bipush 87, [], 87, 0), (43, .iaload, [], 0, 0), (44, .bipush 96, [], 96, 0), (46, .iand, [], 0, 0), (47, .iload_n 1, [], 0, 0), (48, .sipush 159, [], 159, 0), (51, .iand, [], 0, 0), (52, .ior, [], 0, 0), (53, .iastore, [], 0, 0), (54, .aload_n 0, [], 0, 0), (55, .iload_n 1, [], 0, 0), (56, .iconst 1, [], 1, 0), (57, .iand, [], 0, 0), (58, .ifCond .eq 7, [(65, 0)], 0, 0), (61, .iconst 4, [], 4, 0), (62, .goto 4, [(66, 0)], 0, 0)], 65),
  (65, [(65, .iconst 0, [], 0, 0)], 66),
  (66, [(66, .putfield 98, [], 0, 2), (69, .return_, [], 0, 0)], 70)]
def fdX9_storeFlash : mFt := [(86, 12, 17, 1), (16, 12, 3, 0), (98, 12, 21, 1)]
def clX9_storeFlash : mCt := []
def spX9_storeFlash : mSp := mSpOf shM fdX9_storeFlash clX9_storeFlash bsX9_storeFlash 2 none
abbrev rmX9_storeFlash : Room := { frames := 0, cells := 0, slots := 0, locals := 0 }
abbrev wkX9_storeFlash : List Jvm.Cond := .code yX9_storeFlash cX9_storeFlash 2 none :: wM
set_option maxRecDepth 100000 in
set_option maxHeartbeats 4000000 in
theorem metX9_storeFlash (l : Launch) (D : va_G) (ad : Nat → Nat) (tc : Nat → ClassId) : mMet l D vwCl ad tc shM yX9_storeFlash wkX9_storeFlash rmX9_storeFlash spX9_storeFlash :=
  mMet_of (own := RX9) (ret := none) (Fd := fdX9_storeFlash) (Cl := clX9_storeFlash) (Ks := []) (Fi := [(86, 0), (16, 0), (98, 0)]) (Ci := []) (bs := bsX9_storeFlash) rfl (by decide +kernel) rfl (by decide +kernel)
    (List.forall_mem_cons.mpr ⟨⟨RX9, TX9, 39, rfl, by decide, fun w h => mIn (inM_X9 w h), mIn (mAt (i := 21) (by decide +kernel)), fun _ => ⟨tyX9, tyX9_ok, nmX9, rfl, by decide +kernel⟩⟩, List.forall_mem_cons.mpr ⟨⟨RX9, TX9, 39, rfl, by decide, fun w h => mIn (inM_X9 w h), mIn (mAt (i := 3) (by decide +kernel)), fun h => absurd h (by decide)⟩, List.forall_mem_cons.mpr ⟨⟨RX9, TX9, 39, rfl, by decide, fun w h => mIn (inM_X9 w h), mIn (mAt (i := 30) (by decide +kernel)), fun _ => ⟨tyX9, tyX9_ok, nmX9, rfl, by decide +kernel⟩⟩, fun _ h => absurd h List.not_mem_nil⟩⟩⟩)
    (fun _ h => absurd h List.not_mem_nil)
    (fun _ h => absurd h List.not_mem_nil) rfl rfl (by decide +kernel) (by decide) (by decide)
-- FlashBoardModel.holdDog
def bsX9_holdDog : List mBl := [(0, [(0, .aload_n 0, [], 0, 0), (1, .getfield 16, [], 0, 0), (4, .bipush 96, [], 96, 0), (6, .dup2, [], 0, 0), (7, .iaload, [], 0, 0), (8, .aload_n 0, [], 0, 0), (9, .getfield 16, [], 0, 0), (12, .bipush 84, [], 84, 0), (14, .iaload, [], 0, 0), (15, .bipush 8, [], 8, 0), (17, .iand, [], 0, 0), (18, .ior, [], 0, 0), (19, .iastore, [], 0, 0), (20, .return_, [], 0, 0)], 21)]
def fdX9_holdDog : mFt := [(16, 12, 3, 0)]
def clX9_holdDog : mCt := []
def spX9_holdDog : mSp := mSpOf shM fdX9_holdDog clX9_holdDog bsX9_holdDog 1 none
abbrev rmX9_holdDog : Room := { frames := 0, cells := 0, slots := 0, locals := 0 }
abbrev wkX9_holdDog : List Jvm.Cond := .code yX9_holdDog cX9_holdDog 1 none :: wM
set_option maxRecDepth 100000 in
set_option maxHeartbeats 4000000 in
theorem metX9_holdDog (l : Launch) (D : va_G) (ad : Nat → Nat) (tc : Nat → ClassId) : mMet l D vwCl ad tc shM yX9_holdDog wkX9_holdDog rmX9_holdDog spX9_holdDog :=
  mMet_of (own := RX9) (ret := none) (Fd := fdX9_holdDog) (Cl := clX9_holdDog) (Ks := []) (Fi := [(16, 0)]) (Ci := []) (bs := bsX9_holdDog) rfl (by decide +kernel) rfl (by decide +kernel)
    (List.forall_mem_cons.mpr ⟨⟨RX9, TX9, 39, rfl, by decide, fun w h => mIn (inM_X9 w h), mIn (mAt (i := 3) (by decide +kernel)), fun h => absurd h (by decide)⟩, fun _ h => absurd h List.not_mem_nil⟩)
    (fun _ h => absurd h List.not_mem_nil)
    (fun _ h => absurd h List.not_mem_nil) rfl rfl (by decide +kernel) (by decide) (by decide)
-- FlashBoardModel.storeDog
def bsX9_storeDog : List mBl := [(0, [(0, .aload_n 0, [], 0, 0), (1, .getfield 16, [], 0, 0), (4, .bipush 96, [], 96, 0), (6, .iaload, [], 0, 0), (7, .iload_n 1, [], 0, 0), (8, .sipush 128, [], 128, 0), (11, .iand, [], 0, 0), (12, .ifCond .eq 8, [(20, 0)], 0, 0), (15, .bipush 127, [], 127, 0), (17, .goto 6, [(23, 0)], 0, 0)], 20),
  (20, [(20, .sipush 255, [], 255, 0)], 23),
  (23, [(23, .iand, [], 0, 0), (24, .istore_n 2, [], 0, 0), (25, .iload_n 2, [], 0, 0), (26, .sipush 191, [], 191, 0), (29, .iand, [], 0, 0), (30, .iload_n 1, [], 0, 0), (31, .bipush 64, [], 64, 0), (33, .iand, [], 0, 0), (34, .ior, [], 0, 0), (35, .istore_n 2, [], 0, 0), (36, .iload_n 2, [], 0, 0), (37, .bipush 16, [], 16, 0), (39, .iand, [], 0, 0), (40, .ifCond .eq 29, [(69, 0)], 0, 0), (43, .iload_n 1, [], 0, 0), (44, .bipush 16, [], 16, 0), (46, .iand, [], 0, 0), (47, .ifCond .ne 22, [(69, 0)], 0, 0), (50, .iload_n 2, [], 0, 0), (51, .sipush 192, [], 192, 0), (54, .iand, [], 0, 0), (55, .iload_n 1, [], 0, 0), (56, .bipush 47, [], 47, 0), (58, .iand, [], 0, 0), (59, .ior, [], 0, 0), (60, .istore_n 2, [], 0, 0), (61, .aload_n 0, [], 0, 0), (62, .iconst 0, [], 0, 0), (63, .putfield 101, [], 0, 1), (66, .goto 22, [(88, 0)], 0, 0)], 69),
  (69, [(69, .iload_n 1, [], 0, 0), (70, .bipush 24, [], 24, 0), (72, .iand, [], 0, 0), (73, .bipush 24, [], 24, 0), (75, .if_icmp .ne 13, [(88, 0)], 0, 0), (78, .iload_n 2, [], 0, 0), (79, .bipush 16, [], 16, 0), (81, .ior, [], 0, 0), (82, .istore_n 2, [], 0, 0), (83, .aload_n 0, [], 0, 0), (84, .iconst 4, [], 4, 0), (85, .putfield 101, [], 0, 1)], 88),
  (88, [(88, .aload_n 0, [], 0, 0), (89, .getfield 16, [], 0, 0), (92, .bipush 96, [], 96, 0), (94, .iload_n 2, [], 0, 0), (95, .iastore, [], 0, 0), (96, .aload_n 0, [], 0, 0), (97, .invokevirtual 125, [], 0, 0), (100, .return_, [], 0, 0)], 101)]
def fdX9_storeDog : mFt := [(16, 12, 3, 0), (101, 12, 22, 1)]
def clX9_storeDog : mCt := [(125, 0, 0, 12, spX9_holdDog)]
def spX9_storeDog : mSp := mSpOf shM fdX9_storeDog clX9_storeDog bsX9_storeDog 2 none
abbrev rmX9_storeDog : Room := { frames := 1, cells := 0, slots := 0, locals := 20 }
abbrev wkX9_storeDog : List Jvm.Cond := .code yX9_storeDog cX9_storeDog 3 none :: wM
set_option maxRecDepth 100000 in
set_option maxHeartbeats 4000000 in
theorem metX9_storeDog (l : Launch) (D : va_G) (ad : Nat → Nat) (tc : Nat → ClassId) : mMet l D vwCl ad tc shM yX9_storeDog wkX9_storeDog rmX9_storeDog spX9_storeDog :=
  mMet_of (own := RX9) (ret := none) (Fd := fdX9_storeDog) (Cl := clX9_storeDog) (Ks := []) (Fi := [(16, 0), (101, 0)]) (Ci := [(125, 0)]) (bs := bsX9_storeDog) rfl (by decide +kernel) rfl (by decide +kernel)
    (List.forall_mem_cons.mpr ⟨⟨RX9, TX9, 39, rfl, by decide, fun w h => mIn (inM_X9 w h), mIn (mAt (i := 3) (by decide +kernel)), fun h => absurd h (by decide)⟩, List.forall_mem_cons.mpr ⟨⟨RX9, TX9, 39, rfl, by decide, fun w h => mIn (inM_X9 w h), mIn (mAt (i := 31) (by decide +kernel)), fun _ => ⟨tyX9, tyX9_ok, nmX9, rfl, by decide +kernel⟩⟩, fun _ h => absurd h List.not_mem_nil⟩⟩)
    (fun _ h => absurd h List.not_mem_nil)
    (List.forall_mem_cons.mpr ⟨Or.inl ⟨rfl, RX9, TX9, 39, yX9_holdDog, cX9_holdDog, 1, none, wkX9_holdDog, _, rmX9_holdDog, rfl, mGoodV goodM (mAt (i := 97) (by decide +kernel)) (mAt (i := 98) (by decide +kernel)) (mAt (i := 99) (by decide +kernel)) (mAt (i := 8) (by decide +kernel)) (mAt (i := 95) (by decide +kernel)), rfl, rfl, rfl, by decide +kernel, by decide, metX9_holdDog l D ad tc⟩, fun _ h => absurd h List.not_mem_nil⟩) rfl rfl (by decide +kernel) (by decide) (by decide)
-- FlashBoardModel.store
def bsX9_store : List mBl := [(0, [(0, .iload_n 1, [], 0, 0), (1, .ifCond .lt 10, [(11, 0)], 0, 0), (4, .iload_n 1, [], 0, 0), (5, .sipush 1280, [], 1280, 0), (8, .if_icmp .lt 4, [(12, 0)], 0, 0)], 11),
  (11, [(11, .return_, [], 0, 0)], 12),
  (12, [(12, .iload_n 1, [], 0, 0), (13, .invokestatic 144, [], 0, 0), (16, .ifCond .eq 10, [(26, 0)], 0, 0), (19, .aload_n 0, [], 0, 0), (20, .getfield 16, [], 0, 0), (23, .iload_n 1, [], 0, 0), (24, .iload_n 2, [], 0, 0), (25, .iastore, [], 0, 0)], 26),
  (26, [(26, .iload_n 1, [], 0, 0), (27, .lookupswitch 325 #[(35, 105), (53, 119), (63, 135), (64, 143), (65, 143), (84, 165), (85, 183), (87, 191), (96, 199), (192, 207), (193, 247), (198, 275)], [(132, 35), (146, 53), (162, 63), (170, 64), (170, 65), (192, 84), (210, 85), (218, 87), (226, 96), (234, 192), (274, 193), (302, 198), (352, 0)], 0, 105)], 132),
  (132, [(132, .aload_n 0, [], 0, 0), (133, .getfield 16, [], 0, 0), (136, .bipush 37, [], 37, 0), (138, .dup2, [], 0, 0), (139, .iaload, [], 0, 0), (140, .iload_n 2, [], 0, 0), (141, .ixor, [], 0, 0), (142, .iastore, [], 0, 0), (143, .goto 209, [(352, 0)], 0, 0)], 146),
  (146, [(146, .aload_n 0, [], 0, 0), (147, .getfield 16, [], 0, 0), (150, .bipush 53, [], 53, 0), (152, .dup2, [], 0, 0), (153, .iaload, [], 0, 0), (154, .iload_n 2, [], 0, 0), (155, .iconst (-1), [], (-1), 0), (156, .ixor, [], 0, 0), (157, .iand, [], 0, 0), (158, .iastore, [], 0, 0), (159, .goto 193, [(352, 0)], 0, 0)], 162),
  (162, [(162, .aload_n 0, [], 0, 0), (163, .iload_n 2, [], 0, 0), (164, .invokevirtual 148, [], 0, 1), (167, .goto 185, [(352, 0)], 0, 0)], 170),
  (170, [(170, .aload_n 0, [], 0, 0), (171, .getfield 16, [], 0, 0), (174, .bipush 63, [], 63, 0), (176, .iaload, [], 0, 0), (177, .iconst 2, [], 2, 0), (178, .iand, [], 0, 0), (179, .ifCond .ne 173, [(352, 0)], 0, 0), (182, .aload_n 0, [], 0, 0), (183, .getfield 16, [], 0, 0), (186, .iload_n 1, [], 0, 0), (187, .iload_n 2, [], 0, 0), (188, .iastore, [], 0, 0), (189, .goto 163, [(352, 0)], 0, 0)], 192),
  (192, [(192, .aload_n 0, [], 0, 0), (193, .getfield 16, [], 0, 0), (196, .bipush 84, [], 84, 0), (198, .dup2, [], 0, 0), (199, .iaload, [], 0, 0), (200, .iload_n 2, [], 0, 0), (201, .sipush 244, [], 244, 0), (204, .ior, [], 0, 0), (205, .iand, [], 0, 0), (206, .iastore, [], 0, 0), (207, .goto 145, [(352, 0)], 0, 0)], 210),
  (210, [(210, .aload_n 0, [], 0, 0), (211, .iload_n 2, [], 0, 0), (212, .invokevirtual 151, [], 0, 2), (215, .goto 137, [(352, 0)], 0, 0)], 218),
  (218, [(218, .aload_n 0, [], 0, 0), (219, .iload_n 2, [], 0, 0), (220, .invokevirtual 154, [], 0, 3), (223, .goto 129, [(352, 0)], 0, 0)], 226),
  (226, [(226, .aload_n 0, [], 0, 0), (227, .iload_n 2, [], 0, 0), (228, .invokevirtual 157, [], 0, 4), (231, .goto 121, [(352, 0)], 0, 0)], 234),
  (234, [(234, .aload_n 0, [], 0, 0), (235, .getfield 16, [], 0, 0), (238, .sipush 192, [], 192, 0), (241, .aload_n 0, [], 0, 0), (242, .getfield 16, [], 0, 0), (245, .sipush 192, [], 192, 0), (248, .iaload, [], 0, 0), (249, .iload_n 2, [], 0, 0), (250, .bipush 64, [], 64, 0), (252, .iand, [], 0, 0), (253, .ifCond .eq 9, [(262, 0)], 0, 0), (256, .sipush 189, [], 189, 0), (259, .goto 6, [(265, 0)], 0, 0)], 262),
  (262, [(262, .sipush 253, [], 253, 0)], 265),
  (265, [(265, .iand, [], 0, 0), (266, .iload_n 2, [], 0, 0), (267, .iconst 2, [], 2, 0), (268, .iand, [], 0, 0), (269, .ior, [], 0, 0), (270, .iastore, [], 0, 0), (271, .goto 81, [(352, 0)], 0, 0)], 274),
  (274, [(274, .iload_n 2, [], 0, 0), (275, .bipush 8, [], 8, 0), (277, .iand, [], 0, 0), (278, .ifCond .ne 74, [(352, 0)], 0, 0), (281, .aload_n 0, [], 0, 0), (282, .iconst (-1), [], (-1), 0), (283, .putfield 110, [], 0, 1), (286, .aload_n 0, [], 0, 0), (287, .getfield 16, [], 0, 0), (290, .sipush 192, [], 192, 0), (293, .dup2, [], 0, 0), (294, .iaload, [], 0, 0), (295, .bipush 32, [], 32, 0), (297, .ior, [], 0, 0), (298, .iastore, [], 0, 0), (299, .goto 53, [(352, 0)], 0, 0)], 302),
  (302, [(302, .aload_n 0, [], 0, 0), (303, .getfield 16, [], 0, 0), (306, .sipush 193, [], 193, 0), (309, .iaload, [], 0, 0), (310, .bipush 8, [], 8, 0), (312, .iand, [], 0, 0), (313, .ifCond .eq 39, [(352, 0)], 0, 0), (316, .aload_n 0, [], 0, 0), (317, .getfield 16, [], 0, 0), (320, .sipush 192, [], 192, 0), (323, .iaload, [], 0, 0), (324, .bipush 32, [], 32, 0), (326, .iand, [], 0, 0), (327, .ifCond .eq 25, [(352, 0)], 0, 0), (330, .aload_n 0, [], 0, 0), (331, .iload_n 2, [], 0, 0), (332, .putfield 110, [], 0, 1), (335, .aload_n 0, [], 0, 0), (336, .getfield 16, [], 0, 0), (339, .sipush 192, [], 192, 0), (342, .dup2, [], 0, 0), (343, .iaload, [], 0, 0), (344, .sipush 223, [], 223, 0), (347, .iand, [], 0, 0), (348, .iastore, [], 0, 0), (349, .goto 3, [(352, 0)], 0, 0)], 352),
  (352, [(352, .return_, [], 0, 0)], 353)]
def fdX9_store : mFt := [(16, 12, 3, 0), (110, 12, 25, 1)]
def clX9_store : mCt := [(144, 1, 1, 0, spX9_holds), (148, 0, 1, 12, spX9_storeRom), (151, 0, 1, 12, spX9_storeVectors), (154, 0, 1, 12, spX9_storeFlash), (157, 0, 1, 12, spX9_storeDog)]
def spX9_store : mSp := mSpOf shM fdX9_store clX9_store bsX9_store 3 none
abbrev rmX9_store : Room := { frames := 2, cells := 0, slots := 0, locals := 42 }
abbrev wkX9_store : List Jvm.Cond := .code yX9_store cX9_store 3 none :: wM
set_option maxRecDepth 100000 in
set_option maxHeartbeats 4000000 in
theorem metX9_store (l : Launch) (D : va_G) (ad : Nat → Nat) (tc : Nat → ClassId) : mMet l D vwCl ad tc shM yX9_store wkX9_store rmX9_store spX9_store :=
  mMet_of (own := RX9) (ret := none) (Fd := fdX9_store) (Cl := clX9_store) (Ks := []) (Fi := [(16, 0), (110, 0)]) (Ci := [(144, 1), (148, 0), (151, 0), (154, 0), (157, 0)]) (bs := bsX9_store) rfl (by decide +kernel) rfl (by decide +kernel)
    (List.forall_mem_cons.mpr ⟨⟨RX9, TX9, 39, rfl, by decide, fun w h => mIn (inM_X9 w h), mIn (mAt (i := 3) (by decide +kernel)), fun h => absurd h (by decide)⟩, List.forall_mem_cons.mpr ⟨⟨RX9, TX9, 39, rfl, by decide, fun w h => mIn (inM_X9 w h), mIn (mAt (i := 101) (by decide +kernel)), fun _ => ⟨tyX9, tyX9_ok, nmX9, rfl, by decide +kernel⟩⟩, fun _ h => absurd h List.not_mem_nil⟩⟩)
    (fun _ h => absurd h List.not_mem_nil)
    (List.forall_mem_cons.mpr ⟨Or.inr ⟨rfl, yX9_holds, cX9_holds, 1, (some .boolean), wkX9_holds, _, rmX9_holds, mGoodS goodM (mAt (i := 102) (by decide +kernel)) (mAt (i := 103) (by decide +kernel)) (mAt (i := 8) (by decide +kernel)) (mAt (i := 89) (by decide +kernel)), rfl, rfl, rfl, by decide +kernel, by decide, metX9_holds l D ad tc⟩, List.forall_mem_cons.mpr ⟨Or.inl ⟨rfl, RX9, TX9, 39, yX9_storeRom, cX9_storeRom, 3, none, wkX9_storeRom, _, rmX9_storeRom, rfl, mGoodV goodM (mAt (i := 104) (by decide +kernel)) (mAt (i := 105) (by decide +kernel)) (mAt (i := 106) (by decide +kernel)) (mAt (i := 8) (by decide +kernel)) (mAt (i := 90) (by decide +kernel)), rfl, rfl, rfl, by decide +kernel, by decide, metX9_storeRom l D ad tc⟩, List.forall_mem_cons.mpr ⟨Or.inl ⟨rfl, RX9, TX9, 39, yX9_storeVectors, cX9_storeVectors, 2, none, wkX9_storeVectors, _, rmX9_storeVectors, rfl, mGoodV goodM (mAt (i := 107) (by decide +kernel)) (mAt (i := 108) (by decide +kernel)) (mAt (i := 109) (by decide +kernel)) (mAt (i := 8) (by decide +kernel)) (mAt (i := 93) (by decide +kernel)), rfl, rfl, rfl, by decide +kernel, by decide, metX9_storeVectors l D ad tc⟩, List.forall_mem_cons.mpr ⟨Or.inl ⟨rfl, RX9, TX9, 39, yX9_storeFlash, cX9_storeFlash, 2, none, wkX9_storeFlash, _, rmX9_storeFlash, rfl, mGoodV goodM (mAt (i := 110) (by decide +kernel)) (mAt (i := 111) (by decide +kernel)) (mAt (i := 112) (by decide +kernel)) (mAt (i := 8) (by decide +kernel)) (mAt (i := 94) (by decide +kernel)), rfl, rfl, rfl, by decide +kernel, by decide, metX9_storeFlash l D ad tc⟩, List.forall_mem_cons.mpr ⟨Or.inl ⟨rfl, RX9, TX9, 39, yX9_storeDog, cX9_storeDog, 3, none, wkX9_storeDog, _, rmX9_storeDog, rfl, mGoodV goodM (mAt (i := 113) (by decide +kernel)) (mAt (i := 114) (by decide +kernel)) (mAt (i := 115) (by decide +kernel)) (mAt (i := 8) (by decide +kernel)) (mAt (i := 96) (by decide +kernel)), rfl, rfl, rfl, by decide +kernel, by decide, metX9_storeDog l D ad tc⟩, fun _ h => absurd h List.not_mem_nil⟩⟩⟩⟩⟩) rfl rfl (by decide +kernel) (by decide) (by decide)
-- FlashBoardModel.showReceived
def bsX9_showReceived : List mBl := [(0, [(0, .aload_n 0, [], 0, 0), (1, .getfield 16, [], 0, 0), (4, .sipush 192, [], 192, 0), (7, .aload_n 0, [], 0, 0), (8, .getfield 16, [], 0, 0), (11, .sipush 192, [], 192, 0), (14, .iaload, [], 0, 0), (15, .bipush 127, [], 127, 0), (17, .iand, [], 0, 0), (18, .aload_n 0, [], 0, 0), (19, .getfield 119, [], 0, 1), (22, .ifCond .le 9, [(31, 0)], 0, 0), (25, .sipush 128, [], 128, 0), (28, .goto 4, [(32, 0)], 0, 0)], 31),
  (31, [(31, .iconst 0, [], 0, 0)], 32),
  (32, [(32, .ior, [], 0, 0), (33, .iastore, [], 0, 0), (34, .return_, [], 0, 0)], 35)]
def fdX9_showReceived : mFt := [(16, 12, 3, 0), (119, 12, 32, 1)]
def clX9_showReceived : mCt := []
def spX9_showReceived : mSp := mSpOf shM fdX9_showReceived clX9_showReceived bsX9_showReceived 1 none
abbrev rmX9_showReceived : Room := { frames := 0, cells := 0, slots := 0, locals := 0 }
abbrev wkX9_showReceived : List Jvm.Cond := .code yX9_showReceived cX9_showReceived 1 none :: wM
set_option maxRecDepth 100000 in
set_option maxHeartbeats 4000000 in
theorem metX9_showReceived (l : Launch) (D : va_G) (ad : Nat → Nat) (tc : Nat → ClassId) : mMet l D vwCl ad tc shM yX9_showReceived wkX9_showReceived rmX9_showReceived spX9_showReceived :=
  mMet_of (own := RX9) (ret := none) (Fd := fdX9_showReceived) (Cl := clX9_showReceived) (Ks := []) (Fi := [(16, 0), (119, 0)]) (Ci := []) (bs := bsX9_showReceived) rfl (by decide +kernel) rfl (by decide +kernel)
    (List.forall_mem_cons.mpr ⟨⟨RX9, TX9, 39, rfl, by decide, fun w h => mIn (inM_X9 w h), mIn (mAt (i := 3) (by decide +kernel)), fun h => absurd h (by decide)⟩, List.forall_mem_cons.mpr ⟨⟨RX9, TX9, 39, rfl, by decide, fun w h => mIn (inM_X9 w h), mIn (mAt (i := 26) (by decide +kernel)), fun _ => ⟨tyX9, tyX9_ok, nmX9, rfl, by decide +kernel⟩⟩, fun _ h => absurd h List.not_mem_nil⟩⟩)
    (fun _ h => absurd h List.not_mem_nil)
    (fun _ h => absurd h List.not_mem_nil) rfl rfl (by decide +kernel) (by decide) (by decide)
-- FlashBoardModel.load
def bsX9_load : List mBl := [(0, [(0, .aload_n 0, [], 0, 0), (1, .iload_n 1, [], 0, 0), (2, .invokevirtual 134, [], 0, 0), (5, .istore_n 2, [], 0, 0), (6, .iload_n 1, [], 0, 0), (7, .sipush 198, [], 198, 0), (10, .if_icmp .ne 46, [(56, 0)], 0, 0), (13, .aload_n 0, [], 0, 0), (14, .getfield 119, [], 0, 0), (17, .ifCond .le 21, [(38, 0)], 0, 0), (20, .aload_n 0, [], 0, 0), (21, .aload_n 0, [], 0, 0), (22, .getfield 138, [], 0, 1), (25, .putfield 128, [], 0, 2), (28, .aload_n 0, [], 0, 0), (29, .dup, [], 0, 0), (30, .getfield 119, [], 0, 0), (33, .iconst 1, [], 1, 0), (34, .isub, [], 0, 0), (35, .putfield 119, [], 0, 0)], 38),
  (38, [(38, .aload_n 0, [], 0, 0), (39, .getfield 16, [], 0, 3), (42, .sipush 192, [], 192, 0), (45, .dup2, [], 0, 0), (46, .iaload, [], 0, 0), (47, .sipush 247, [], 247, 0), (50, .iand, [], 0, 0), (51, .iastore, [], 0, 0), (52, .aload_n 0, [], 0, 0), (53, .invokevirtual 141, [], 0, 1)], 56),
  (56, [(56, .iload_n 2, [], 0, 0), (57, .ireturn, [], 0, 0)], 58)]
def fdX9_load : mFt := [(119, 12, 32, 1), (138, 12, 31, 1), (128, 12, 30, 1), (16, 12, 3, 0)]
def clX9_load : mCt := [(134, 0, 1, 12, spX9_seen), (141, 0, 0, 12, spX9_showReceived)]
def spX9_load : mSp := mSpOf shM fdX9_load clX9_load bsX9_load 2 (some .int)
abbrev rmX9_load : Room := { frames := 1, cells := 0, slots := 0, locals := 21 }
abbrev wkX9_load : List Jvm.Cond := .code yX9_load cX9_load 3 (some .int) :: wM
set_option maxRecDepth 100000 in
set_option maxHeartbeats 4000000 in
theorem metX9_load (l : Launch) (D : va_G) (ad : Nat → Nat) (tc : Nat → ClassId) : mMet l D vwCl ad tc shM yX9_load wkX9_load rmX9_load spX9_load :=
  mMet_of (own := RX9) (ret := (some .int)) (Fd := fdX9_load) (Cl := clX9_load) (Ks := []) (Fi := [(119, 0), (138, 0), (128, 0), (16, 0)]) (Ci := [(134, 0), (141, 0)]) (bs := bsX9_load) rfl (by decide +kernel) rfl (by decide +kernel)
    (List.forall_mem_cons.mpr ⟨⟨RX9, TX9, 39, rfl, by decide, fun w h => mIn (inM_X9 w h), mIn (mAt (i := 26) (by decide +kernel)), fun _ => ⟨tyX9, tyX9_ok, nmX9, rfl, by decide +kernel⟩⟩, List.forall_mem_cons.mpr ⟨⟨RX9, TX9, 39, rfl, by decide, fun w h => mIn (inM_X9 w h), mIn (mAt (i := 118) (by decide +kernel)), fun _ => ⟨tyX9, tyX9_ok, nmX9, rfl, by decide +kernel⟩⟩, List.forall_mem_cons.mpr ⟨⟨RX9, TX9, 39, rfl, by decide, fun w h => mIn (inM_X9 w h), mIn (mAt (i := 83) (by decide +kernel)), fun _ => ⟨tyX9, tyX9_ok, nmX9, rfl, by decide +kernel⟩⟩, List.forall_mem_cons.mpr ⟨⟨RX9, TX9, 39, rfl, by decide, fun w h => mIn (inM_X9 w h), mIn (mAt (i := 3) (by decide +kernel)), fun h => absurd h (by decide)⟩, fun _ h => absurd h List.not_mem_nil⟩⟩⟩⟩)
    (fun _ h => absurd h List.not_mem_nil)
    (List.forall_mem_cons.mpr ⟨Or.inl ⟨rfl, RX9, TX9, 39, yX9_seen, cX9_seen, 2, (some .int), wkX9_seen, _, rmX9_seen, rfl, mGoodV goodM (mAt (i := 86) (by decide +kernel)) (mAt (i := 87) (by decide +kernel)) (mAt (i := 88) (by decide +kernel)) (mAt (i := 8) (by decide +kernel)) (mAt (i := 82) (by decide +kernel)), rfl, rfl, rfl, by decide +kernel, by decide, metX9_seen l D ad tc⟩, List.forall_mem_cons.mpr ⟨Or.inl ⟨rfl, RX9, TX9, 39, yX9_showReceived, cX9_showReceived, 1, none, wkX9_showReceived, _, rmX9_showReceived, rfl, mGoodV goodM (mAt (i := 119) (by decide +kernel)) (mAt (i := 120) (by decide +kernel)) (mAt (i := 121) (by decide +kernel)) (mAt (i := 8) (by decide +kernel)) (mAt (i := 116) (by decide +kernel)), rfl, rfl, rfl, by decide +kernel, by decide, metX9_showReceived l D ad tc⟩, fun _ h => absurd h List.not_mem_nil⟩⟩) rfl rfl (by decide +kernel) (by decide) (by decide)
-- FlashBoardModel.displaced
def bsX9_displaced : List mBl := [(0, [(0, .iload_n 1, [], 0, 0), (1, .bipush 7, [], 7, 0), (3, .iand, [], 0, 0), (4, .iload_n 1, [], 0, 0), (5, .bipush 7, [], 7, 0), (7, .ishr, [], 0, 0), (8, .bipush 24, [], 24, 0), (10, .iand, [], 0, 0), (11, .ior, [], 0, 0), (12, .iload_n 1, [], 0, 0), (13, .bipush 8, [], 8, 0), (15, .ishr, [], 0, 0), (16, .bipush 32, [], 32, 0), (18, .iand, [], 0, 0), (19, .ior, [], 0, 0), (20, .istore_n 2, [], 0, 0), (21, .aload_n 0, [], 0, 0), (22, .iload_n 1, [], 0, 0), (23, .bipush 8, [], 8, 0), (25, .iand, [], 0, 0), (26, .ifCond .eq 8, [(34, 0)], 0, 0), (29, .bipush 28, [], 28, 0), (31, .goto 5, [(36, 0)], 0, 0)], 34),
  (34, [(34, .bipush 30, [], 30, 0)], 36),
  (36, [(36, .invokevirtual 231, [], 0, 0), (39, .iload_n 2, [], 0, 0), (40, .iadd, [], 0, 0), (41, .ldc 43, [], 65535, 0), (43, .iand, [], 0, 0), (44, .istore_n 3, [], 0, 0), (45, .iload_n 1, [], 0, 0), (46, .iconst 4, [], 4, 0), (47, .ishr, [], 0, 0), (48, .bipush 31, [], 31, 0), (50, .iand, [], 0, 0), (51, .istore 4, [], 0, 0), (53, .iload_n 1, [], 0, 0), (54, .sipush 512, [], 512, 0), (57, .iand, [], 0, 0), (58, .ifCond .eq 18, [(76, 0)], 0, 0), (61, .aload_n 0, [], 0, 0), (62, .iload_n 3, [], 0, 0), (63, .aload_n 0, [], 0, 0), (64, .getfield 16, [], 0, 0), (67, .iload 4, [], 0, 0), (69, .iaload, [], 0, 0), (70, .invokevirtual 234, [], 0, 1), (73, .goto 15, [(88, 0)], 0, 0)], 76),
  (76, [(76, .aload_n 0, [], 0, 0), (77, .getfield 16, [], 0, 0), (80, .iload 4, [], 0, 0), (82, .aload_n 0, [], 0, 0), (83, .iload_n 3, [], 0, 0), (84, .invokevirtual 241, [], 0, 2), (87, .iastore, [], 0, 0)], 88),
  (88, [(88, .iconst 2, [], 2, 0), (89, .ireturn, [], 0, 0)], 90)]
def fdX9_displaced : mFt := [(16, 12, 3, 0)]
def clX9_displaced : mCt := [(231, 0, 1, 12, spX9_pointer), (234, 0, 2, 12, spX9_store), (241, 0, 1, 12, spX9_load)]
def spX9_displaced : mSp := mSpOf shM fdX9_displaced clX9_displaced bsX9_displaced 2 (some .int)
abbrev rmX9_displaced : Room := { frames := 3, cells := 0, slots := 0, locals := 64 }
abbrev wkX9_displaced : List Jvm.Cond := .code yX9_displaced cX9_displaced 5 (some .int) :: wM
set_option maxRecDepth 100000 in
set_option maxHeartbeats 4000000 in
theorem metX9_displaced (l : Launch) (D : va_G) (ad : Nat → Nat) (tc : Nat → ClassId) : mMet l D vwCl ad tc shM yX9_displaced wkX9_displaced rmX9_displaced spX9_displaced :=
  mMet_of (own := RX9) (ret := (some .int)) (Fd := fdX9_displaced) (Cl := clX9_displaced) (Ks := [(43, 65535)]) (Fi := [(16, 0)]) (Ci := [(231, 0), (234, 0), (241, 0)]) (bs := bsX9_displaced) rfl (by decide +kernel) rfl (by decide +kernel)
    (List.forall_mem_cons.mpr ⟨⟨RX9, TX9, 39, rfl, by decide, fun w h => mIn (inM_X9 w h), mIn (mAt (i := 3) (by decide +kernel)), fun h => absurd h (by decide)⟩, fun _ h => absurd h List.not_mem_nil⟩)
    (List.forall_mem_cons.mpr ⟨mIn (mAt (i := 58) (by decide +kernel)), fun _ h => absurd h List.not_mem_nil⟩)
    (List.forall_mem_cons.mpr ⟨Or.inl ⟨rfl, RX9, TX9, 39, yX9_pointer, cX9_pointer, 2, (some .int), wkX9_pointer, _, rmX9_pointer, rfl, mGoodV goodM (mAt (i := 38) (by decide +kernel)) (mAt (i := 39) (by decide +kernel)) (mAt (i := 40) (by decide +kernel)) (mAt (i := 8) (by decide +kernel)) (mAt (i := 2) (by decide +kernel)), rfl, rfl, rfl, by decide +kernel, by decide, metX9_pointer l D ad tc⟩, List.forall_mem_cons.mpr ⟨Or.inl ⟨rfl, RX9, TX9, 39, yX9_store, cX9_store, 3, none, wkX9_store, _, rmX9_store, rfl, mGoodV goodM (mAt (i := 123) (by decide +kernel)) (mAt (i := 124) (by decide +kernel)) (mAt (i := 125) (by decide +kernel)) (mAt (i := 8) (by decide +kernel)) (mAt (i := 100) (by decide +kernel)), rfl, rfl, rfl, by decide +kernel, by decide, metX9_store l D ad tc⟩, List.forall_mem_cons.mpr ⟨Or.inl ⟨rfl, RX9, TX9, 39, yX9_load, cX9_load, 3, (some .int), wkX9_load, _, rmX9_load, rfl, mGoodV goodM (mAt (i := 126) (by decide +kernel)) (mAt (i := 127) (by decide +kernel)) (mAt (i := 128) (by decide +kernel)) (mAt (i := 8) (by decide +kernel)) (mAt (i := 117) (by decide +kernel)), rfl, rfl, rfl, by decide +kernel, by decide, metX9_load l D ad tc⟩, fun _ h => absurd h List.not_mem_nil⟩⟩⟩) rfl rfl (by decide +kernel) (by decide) (by decide)
-- FlashBoardModel.restart
def bsX9_restart : List mBl := [(0, [(0, .aload_n 0, [], 0, 0), (1, .getfield 16, [], 0, 0), (4, .bipush 84, [], 84, 0), (6, .iaload, [], 0, 0), (7, .istore_n 2, [], 0, 0), (8, .bipush 32, [], 32, 0), (10, .istore_n 3, [], 0, 0)], 11),
  (11, [(11, .iload_n 3, [], 0, 0), (12, .sipush 256, [], 256, 0), (15, .if_icmp .ge 16, [(31, 0)], 0, 0), (18, .aload_n 0, [], 0, 0), (19, .getfield 16, [], 0, 0), (22, .iload_n 3, [], 0, 0), (23, .iconst 0, [], 0, 0), (24, .iastore, [], 0, 0), (25, .iinc 3 1, [], 1, 0), (28, .goto (-17), [(11, 0)], 0, 0)], 31),
  (31, [(31, .aload_n 0, [], 0, 0), (32, .getfield 16, [], 0, 0), (35, .sipush 192, [], 192, 0), (38, .bipush 32, [], 32, 0), (40, .iastore, [], 0, 0), (41, .aload_n 0, [], 0, 0), (42, .getfield 16, [], 0, 0), (45, .bipush 84, [], 84, 0), (47, .iload_n 1, [], 0, 0), (48, .iconst 1, [], 1, 0), (49, .if_icmp .ne 7, [(56, 0)], 0, 0), (52, .iconst 1, [], 1, 0), (53, .goto 6, [(59, 0)], 0, 0)], 56),
  (56, [(56, .iload_n 2, [], 0, 0), (57, .iload_n 1, [], 0, 0), (58, .ior, [], 0, 0)], 59),
  (59, [(59, .iastore, [], 0, 0), (60, .aload_n 0, [], 0, 0), (61, .aload_n 0, [], 0, 0), (62, .getfield 30, [], 0, 1), (65, .iconst 1, [], 1, 0), (66, .if_icmp .ne 9, [(75, 0)], 0, 0), (69, .sipush 1536, [], 1536, 0), (72, .goto 4, [(76, 0)], 0, 0)], 75),
  (75, [(75, .iconst 0, [], 0, 0)], 76),
  (76, [(76, .putfield 77, [], 0, 2), (79, .aload_n 0, [], 0, 0), (80, .iconst 0, [], 0, 0), (81, .putfield 80, [], 0, 3), (84, .aload_n 0, [], 0, 0), (85, .iconst 0, [], 0, 0), (86, .putfield 83, [], 0, 4), (89, .aload_n 0, [], 0, 0), (90, .iconst 0, [], 0, 0), (91, .putfield 86, [], 0, 5), (94, .aload_n 0, [], 0, 0), (95, .iconst 0, [], 0, 0), (96, .putfield 89, [], 0, 6), (99, .aload_n 0, [], 0, 0), (100, .iconst 0, [], 0, 0), (101, .putfield 92, [], 0, 7), (104, .aload_n 0, [], 0, 0), (105, .iconst 0, [], 0, 0), (106, .putfield 95, [], 0, 8), (109, .aload_n 0, [], 0, 0), (110, .iconst 0, [], 0, 0), (111, .putfield 98, [], 0, 9), (114, .aload_n 0, [], 0, 0), (115, .iconst 0, [], 0, 0), (116, .putfield 101, [], 0, 10), (119, .aload_n 0, [], 0, 0), (120, .iconst 0, [], 0, 0), (121, .putfield 104, [], 0, 11), (124, .aload_n 0, [], 0, 0), (125, .iconst 0, [], 0, 0), (126, .putfield 107, [], 0, 12), (129, .aload_n 0, [], 0, 0), (130, .iconst (-1), [], (-1), 0), (131, .putfield 110, [], 0, 13), (134, .aload_n 0, [], 0, 0), (135, .iconst 0, [], 0, 0), (136, .putfield 113, [], 0, 14), (139, .aload_n 0, [], 0, 0), (140, .iconst 0, [], 0, 0), (141, .putfield 116, [], 0, 15), (144, .aload_n 0, [], 0, 0), (145, .iconst 0, [], 0, 0), (146, .putfield 119, [], 0, 16), (149, .aload_n 0, [], 0, 0), (150, .invokevirtual 122, [], 0, 0), (153, .aload_n 0, [], 0, 0), (154, .invokevirtual 125, [], 0, 1), (157, .return_, [], 0, 0)], 158)]
def fdX9_restart : mFt := [(16, 12, 3, 0), (30, 12, 7, 1), (77, 12, 12, 1), (80, 12, 10, 2), (83, 12, 11, 2), (86, 12, 17, 1), (89, 12, 18, 1), (92, 12, 19, 1), (95, 12, 20, 1), (98, 12, 21, 1), (101, 12, 22, 1), (104, 12, 23, 1), (107, 12, 24, 1), (110, 12, 25, 1), (113, 12, 27, 1), (116, 12, 29, 1), (119, 12, 32, 1)]
def clX9_restart : mCt := [(122, 0, 0, 12, spX9_clearBuffer), (125, 0, 0, 12, spX9_holdDog)]
def spX9_restart : mSp := mSpOf shM fdX9_restart clX9_restart bsX9_restart 2 none
abbrev rmX9_restart : Room := { frames := 1, cells := 0, slots := 0, locals := 21 }
abbrev wkX9_restart : List Jvm.Cond := .code yX9_restart cX9_restart 4 none :: wM
set_option maxRecDepth 100000 in
set_option maxHeartbeats 4000000 in
theorem metX9_restart (l : Launch) (D : va_G) (ad : Nat → Nat) (tc : Nat → ClassId) : mMet l D vwCl ad tc shM yX9_restart wkX9_restart rmX9_restart spX9_restart :=
  mMet_of (own := RX9) (ret := none) (Fd := fdX9_restart) (Cl := clX9_restart) (Ks := []) (Fi := [(16, 0), (30, 0), (77, 0), (80, 0), (83, 0), (86, 0), (89, 0), (92, 0), (95, 0), (98, 0), (101, 0), (104, 0), (107, 0), (110, 0), (113, 0), (116, 0), (119, 0)]) (Ci := [(122, 0), (125, 0)]) (bs := bsX9_restart) rfl (by decide +kernel) rfl (by decide +kernel)
    (List.forall_mem_cons.mpr ⟨⟨RX9, TX9, 39, rfl, by decide, fun w h => mIn (inM_X9 w h), mIn (mAt (i := 3) (by decide +kernel)), fun h => absurd h (by decide)⟩, List.forall_mem_cons.mpr ⟨⟨RX9, TX9, 39, rfl, by decide, fun w h => mIn (inM_X9 w h), mIn (mAt (i := 130) (by decide +kernel)), fun _ => ⟨tyX9, tyX9_ok, nmX9, rfl, by decide +kernel⟩⟩, List.forall_mem_cons.mpr ⟨⟨RX9, TX9, 39, rfl, by decide, fun w h => mIn (inM_X9 w h), mIn (mAt (i := 15) (by decide +kernel)), fun _ => ⟨tyX9, tyX9_ok, nmX9, rfl, by decide +kernel⟩⟩, List.forall_mem_cons.mpr ⟨⟨RX9, TX9, 39, rfl, by decide, fun w h => mIn (inM_X9 w h), mIn (mAt (i := 16) (by decide +kernel)), fun _ => ⟨tyX9, tyX9_ok, nmX9, rfl, by decide +kernel⟩⟩, List.forall_mem_cons.mpr ⟨⟨RX9, TX9, 39, rfl, by decide, fun w h => mIn (inM_X9 w h), mIn (mAt (i := 131) (by decide +kernel)), fun _ => ⟨tyX9, tyX9_ok, nmX9, rfl, by decide +kernel⟩⟩, List.forall_mem_cons.mpr ⟨⟨RX9, TX9, 39, rfl, by decide, fun w h => mIn (inM_X9 w h), mIn (mAt (i := 21) (by decide +kernel)), fun _ => ⟨tyX9, tyX9_ok, nmX9, rfl, by decide +kernel⟩⟩, List.forall_mem_cons.mpr ⟨⟨RX9, TX9, 39, rfl, by decide, fun w h => mIn (inM_X9 w h), mIn (mAt (i := 24) (by decide +kernel)), fun _ => ⟨tyX9, tyX9_ok, nmX9, rfl, by decide +kernel⟩⟩, List.forall_mem_cons.mpr ⟨⟨RX9, TX9, 39, rfl, by decide, fun w h => mIn (inM_X9 w h), mIn (mAt (i := 23) (by decide +kernel)), fun _ => ⟨tyX9, tyX9_ok, nmX9, rfl, by decide +kernel⟩⟩, List.forall_mem_cons.mpr ⟨⟨RX9, TX9, 39, rfl, by decide, fun w h => mIn (inM_X9 w h), mIn (mAt (i := 29) (by decide +kernel)), fun _ => ⟨tyX9, tyX9_ok, nmX9, rfl, by decide +kernel⟩⟩, List.forall_mem_cons.mpr ⟨⟨RX9, TX9, 39, rfl, by decide, fun w h => mIn (inM_X9 w h), mIn (mAt (i := 30) (by decide +kernel)), fun _ => ⟨tyX9, tyX9_ok, nmX9, rfl, by decide +kernel⟩⟩, List.forall_mem_cons.mpr ⟨⟨RX9, TX9, 39, rfl, by decide, fun w h => mIn (inM_X9 w h), mIn (mAt (i := 31) (by decide +kernel)), fun _ => ⟨tyX9, tyX9_ok, nmX9, rfl, by decide +kernel⟩⟩, List.forall_mem_cons.mpr ⟨⟨RX9, TX9, 39, rfl, by decide, fun w h => mIn (inM_X9 w h), mIn (mAt (i := 32) (by decide +kernel)), fun _ => ⟨tyX9, tyX9_ok, nmX9, rfl, by decide +kernel⟩⟩, List.forall_mem_cons.mpr ⟨⟨RX9, TX9, 39, rfl, by decide, fun w h => mIn (inM_X9 w h), mIn (mAt (i := 33) (by decide +kernel)), fun _ => ⟨tyX9, tyX9_ok, nmX9, rfl, by decide +kernel⟩⟩, List.forall_mem_cons.mpr ⟨⟨RX9, TX9, 39, rfl, by decide, fun w h => mIn (inM_X9 w h), mIn (mAt (i := 101) (by decide +kernel)), fun _ => ⟨tyX9, tyX9_ok, nmX9, rfl, by decide +kernel⟩⟩, List.forall_mem_cons.mpr ⟨⟨RX9, TX9, 39, rfl, by decide, fun w h => mIn (inM_X9 w h), mIn (mAt (i := 27) (by decide +kernel)), fun _ => ⟨tyX9, tyX9_ok, nmX9, rfl, by decide +kernel⟩⟩, List.forall_mem_cons.mpr ⟨⟨RX9, TX9, 39, rfl, by decide, fun w h => mIn (inM_X9 w h), mIn (mAt (i := 28) (by decide +kernel)), fun _ => ⟨tyX9, tyX9_ok, nmX9, rfl, by decide +kernel⟩⟩, List.forall_mem_cons.mpr ⟨⟨RX9, TX9, 39, rfl, by decide, fun w h => mIn (inM_X9 w h), mIn (mAt (i := 26) (by decide +kernel)), fun _ => ⟨tyX9, tyX9_ok, nmX9, rfl, by decide +kernel⟩⟩, fun _ h => absurd h List.not_mem_nil⟩⟩⟩⟩⟩⟩⟩⟩⟩⟩⟩⟩⟩⟩⟩⟩⟩)
    (fun _ h => absurd h List.not_mem_nil)
    (List.forall_mem_cons.mpr ⟨Or.inl ⟨rfl, RX9, TX9, 39, yX9_clearBuffer, cX9_clearBuffer, 2, none, wkX9_clearBuffer, _, rmX9_clearBuffer, rfl, mGoodV goodM (mAt (i := 132) (by decide +kernel)) (mAt (i := 133) (by decide +kernel)) (mAt (i := 134) (by decide +kernel)) (mAt (i := 8) (by decide +kernel)) (mAt (i := 81) (by decide +kernel)), rfl, rfl, rfl, by decide +kernel, by decide, metX9_clearBuffer l D ad tc⟩, List.forall_mem_cons.mpr ⟨Or.inl ⟨rfl, RX9, TX9, 39, yX9_holdDog, cX9_holdDog, 1, none, wkX9_holdDog, _, rmX9_holdDog, rfl, mGoodV goodM (mAt (i := 97) (by decide +kernel)) (mAt (i := 98) (by decide +kernel)) (mAt (i := 99) (by decide +kernel)) (mAt (i := 8) (by decide +kernel)) (mAt (i := 95) (by decide +kernel)), rfl, rfl, rfl, by decide +kernel, by decide, metX9_holdDog l D ad tc⟩, fun _ h => absurd h List.not_mem_nil⟩⟩) rfl rfl (by decide +kernel) (by decide) (by decide)
-- FlashBoardModel.dog
def bsX9_dog : List mBl := [(0, [(0, .aload_n 0, [], 0, 0), (1, .getfield 16, [], 0, 0), (4, .bipush 96, [], 96, 0), (6, .iaload, [], 0, 0), (7, .bipush 72, [], 72, 0), (9, .iand, [], 0, 0), (10, .ifCond .ne 10, [(20, 0)], 0, 0), (13, .aload_n 0, [], 0, 0), (14, .iconst 0, [], 0, 0), (15, .putfield 92, [], 0, 1), (18, .iconst 1, [], 1, 0), (19, .ireturn, [], 0, 0)], 20),
  (20, [(20, .aload_n 0, [], 0, 0), (21, .dup, [], 0, 0), (22, .getfield 92, [], 0, 1), (25, .iconst 1, [], 1, 0), (26, .iadd, [], 0, 0), (27, .putfield 92, [], 0, 1), (30, .aload_n 0, [], 0, 0), (31, .getfield 16, [], 0, 0), (34, .bipush 96, [], 96, 0), (36, .iaload, [], 0, 0), (37, .bipush 7, [], 7, 0), (39, .iand, [], 0, 0), (40, .aload_n 0, [], 0, 0), (41, .getfield 16, [], 0, 0), (44, .bipush 96, [], 96, 0), (46, .iaload, [], 0, 0), (47, .iconst 2, [], 2, 0), (48, .ishr, [], 0, 0), (49, .bipush 8, [], 8, 0), (51, .iand, [], 0, 0), (52, .ior, [], 0, 0), (53, .istore_n 1, [], 0, 0), (54, .aload_n 0, [], 0, 0), (55, .getfield 92, [], 0, 1), (58, .sipush 4096, [], 4096, 0), (61, .iload_n 1, [], 0, 0), (62, .bipush 11, [], 11, 0), (64, .if_icmp .le 8, [(72, 0)], 0, 0), (67, .bipush 11, [], 11, 0), (69, .goto 4, [(73, 0)], 0, 0)], 72),
  (72, [(72, .iload_n 1, [], 0, 0)], 73),
  (73, [(73, .ishl, [], 0, 0), (74, .if_icmp .ge 5, [(79, 0)], 0, 0), (77, .iconst 1, [], 1, 0), (78, .ireturn, [], 0, 0)], 79),
  (79, [(79, .aload_n 0, [], 0, 0), (80, .iconst 0, [], 0, 0), (81, .putfield 92, [], 0, 1), (84, .aload_n 0, [], 0, 0), (85, .getfield 16, [], 0, 0), (88, .bipush 96, [], 96, 0), (90, .iaload, [], 0, 0), (91, .bipush 64, [], 64, 0), (93, .iand, [], 0, 0), (94, .ifCond .eq 18, [(112, 0)], 0, 0), (97, .aload_n 0, [], 0, 0), (98, .getfield 16, [], 0, 0), (101, .bipush 96, [], 96, 0), (103, .dup2, [], 0, 0), (104, .iaload, [], 0, 0), (105, .sipush 128, [], 128, 0), (108, .ior, [], 0, 0), (109, .iastore, [], 0, 0), (110, .iconst 1, [], 1, 0), (111, .ireturn, [], 0, 0)], 112),
  (112, [(112, .aload_n 0, [], 0, 0), (113, .dup, [], 0, 0), (114, .getfield 210, [], 0, 2), (117, .iconst 1, [], 1, 0), (118, .iadd, [], 0, 0), (119, .putfield 210, [], 0, 2), (122, .aload_n 0, [], 0, 0), (123, .bipush 8, [], 8, 0), (125, .invokevirtual 56, [], 0, 0), (128, .iconst 0, [], 0, 0), (129, .ireturn, [], 0, 0)], 130)]
def fdX9_dog : mFt := [(16, 12, 3, 0), (92, 12, 19, 1), (210, 12, 16, 1)]
def clX9_dog : mCt := [(56, 0, 1, 12, spX9_restart)]
def spX9_dog : mSp := mSpOf shM fdX9_dog clX9_dog bsX9_dog 1 (some .boolean)
abbrev rmX9_dog : Room := { frames := 2, cells := 0, slots := 0, locals := 44 }
abbrev wkX9_dog : List Jvm.Cond := .code yX9_dog cX9_dog 2 (some .boolean) :: wM
set_option maxRecDepth 100000 in
set_option maxHeartbeats 4000000 in
theorem metX9_dog (l : Launch) (D : va_G) (ad : Nat → Nat) (tc : Nat → ClassId) : mMet l D vwCl ad tc shM yX9_dog wkX9_dog rmX9_dog spX9_dog :=
  mMet_of (own := RX9) (ret := (some .boolean)) (Fd := fdX9_dog) (Cl := clX9_dog) (Ks := []) (Fi := [(16, 0), (92, 0), (210, 0)]) (Ci := [(56, 0)]) (bs := bsX9_dog) rfl (by decide +kernel) rfl (by decide +kernel)
    (List.forall_mem_cons.mpr ⟨⟨RX9, TX9, 39, rfl, by decide, fun w h => mIn (inM_X9 w h), mIn (mAt (i := 3) (by decide +kernel)), fun h => absurd h (by decide)⟩, List.forall_mem_cons.mpr ⟨⟨RX9, TX9, 39, rfl, by decide, fun w h => mIn (inM_X9 w h), mIn (mAt (i := 23) (by decide +kernel)), fun _ => ⟨tyX9, tyX9_ok, nmX9, rfl, by decide +kernel⟩⟩, List.forall_mem_cons.mpr ⟨⟨RX9, TX9, 39, rfl, by decide, fun w h => mIn (inM_X9 w h), mIn (mAt (i := 20) (by decide +kernel)), fun _ => ⟨tyX9, tyX9_ok, nmX9, rfl, by decide +kernel⟩⟩, fun _ h => absurd h List.not_mem_nil⟩⟩⟩)
    (fun _ h => absurd h List.not_mem_nil)
    (List.forall_mem_cons.mpr ⟨Or.inl ⟨rfl, RX9, TX9, 39, yX9_restart, cX9_restart, 4, none, wkX9_restart, _, rmX9_restart, rfl, mGoodV goodM (mAt (i := 136) (by decide +kernel)) (mAt (i := 137) (by decide +kernel)) (mAt (i := 138) (by decide +kernel)) (mAt (i := 8) (by decide +kernel)) (mAt (i := 129) (by decide +kernel)), rfl, rfl, rfl, by decide +kernel, by decide, metX9_restart l D ad tc⟩, fun _ h => absurd h List.not_mem_nil⟩) rfl rfl (by decide +kernel) (by decide) (by decide)
-- FlashBoardModel.eeprom
def bsX9_eeprom : List mBl := [(0, [(0, .aload_n 0, [], 0, 0), (1, .iload_n 1, [], 0, 0), (2, .ifCond .lt 14, [(16, 0)], 0, 0), (5, .iload_n 1, [], 0, 0), (6, .sipush 256, [], 256, 0), (9, .if_icmp .ge 7, [(16, 0)], 0, 0), (12, .iconst 1, [], 1, 0), (13, .goto 4, [(17, 0)], 0, 0)], 16),
  (16, [(16, .iconst 0, [], 0, 0)], 17),
  (17, [(17, .invokevirtual 359, [], 0, 0), (20, .ifCond .eq 12, [(32, 0)], 0, 0), (23, .aload_n 0, [], 0, 0), (24, .getfield 19, [], 0, 0), (27, .iload_n 1, [], 0, 0), (28, .iaload, [], 0, 0), (29, .goto 4, [(33, 0)], 0, 0)], 32),
  (32, [(32, .iconst 0, [], 0, 0)], 33),
  (33, [(33, .ireturn, [], 0, 0)], 34)]
def fdX9_eeprom : mFt := [(19, 12, 4, 0)]
def clX9_eeprom : mCt := [(359, 0, 1, 12, spX9_right)]
def spX9_eeprom : mSp := mSpOf shM fdX9_eeprom clX9_eeprom bsX9_eeprom 2 (some .int)
abbrev rmX9_eeprom : Room := { frames := 1, cells := 0, slots := 0, locals := 21 }
abbrev wkX9_eeprom : List Jvm.Cond := .code yX9_eeprom cX9_eeprom 2 (some .int) :: wM
set_option maxRecDepth 100000 in
set_option maxHeartbeats 4000000 in
theorem metX9_eeprom (l : Launch) (D : va_G) (ad : Nat → Nat) (tc : Nat → ClassId) : mMet l D vwCl ad tc shM yX9_eeprom wkX9_eeprom rmX9_eeprom spX9_eeprom :=
  mMet_of (own := RX9) (ret := (some .int)) (Fd := fdX9_eeprom) (Cl := clX9_eeprom) (Ks := []) (Fi := [(19, 0)]) (Ci := [(359, 0)]) (bs := bsX9_eeprom) rfl (by decide +kernel) rfl (by decide +kernel)
    (List.forall_mem_cons.mpr ⟨⟨RX9, TX9, 39, rfl, by decide, fun w h => mIn (inM_X9 w h), mIn (mAt (i := 91) (by decide +kernel)), fun h => absurd h (by decide)⟩, fun _ h => absurd h List.not_mem_nil⟩)
    (fun _ h => absurd h List.not_mem_nil)
    (List.forall_mem_cons.mpr ⟨Or.inl ⟨rfl, RX9, TX9, 39, yX9_right, cX9_right, 2, (some .boolean), wkX9_right, _, rmX9_right, rfl, mGoodV goodM (mAt (i := 35) (by decide +kernel)) (mAt (i := 36) (by decide +kernel)) (mAt (i := 37) (by decide +kernel)) (mAt (i := 8) (by decide +kernel)) (mAt (i := 0) (by decide +kernel)), rfl, rfl, rfl, by decide +kernel, by decide, metX9_right l D ad tc⟩, fun _ h => absurd h List.not_mem_nil⟩) rfl rfl (by decide +kernel) (by decide) (by decide)
-- FlashBoardModel.setPointer
def bsX9_setPointer : List mBl := [(0, [(0, .aload_n 0, [], 0, 0), (1, .getfield 16, [], 0, 0), (4, .iload_n 1, [], 0, 0), (5, .iload_n 2, [], 0, 0), (6, .sipush 255, [], 255, 0), (9, .iand, [], 0, 0), (10, .iastore, [], 0, 0), (11, .aload_n 0, [], 0, 0), (12, .getfield 16, [], 0, 0), (15, .iload_n 1, [], 0, 0), (16, .iconst 1, [], 1, 0), (17, .iadd, [], 0, 0), (18, .iload_n 2, [], 0, 0), (19, .bipush 8, [], 8, 0), (21, .ishr, [], 0, 0), (22, .sipush 255, [], 255, 0), (25, .iand, [], 0, 0), (26, .iastore, [], 0, 0), (27, .return_, [], 0, 0)], 28)]
def fdX9_setPointer : mFt := [(16, 12, 3, 0)]
def clX9_setPointer : mCt := []
def spX9_setPointer : mSp := mSpOf shM fdX9_setPointer clX9_setPointer bsX9_setPointer 3 none
abbrev rmX9_setPointer : Room := { frames := 0, cells := 0, slots := 0, locals := 0 }
abbrev wkX9_setPointer : List Jvm.Cond := .code yX9_setPointer cX9_setPointer 3 none :: wM
set_option maxRecDepth 100000 in
set_option maxHeartbeats 4000000 in
theorem metX9_setPointer (l : Launch) (D : va_G) (ad : Nat → Nat) (tc : Nat → ClassId) : mMet l D vwCl ad tc shM yX9_setPointer wkX9_setPointer rmX9_setPointer spX9_setPointer :=
  mMet_of (own := RX9) (ret := none) (Fd := fdX9_setPointer) (Cl := clX9_setPointer) (Ks := []) (Fi := [(16, 0)]) (Ci := []) (bs := bsX9_setPointer) rfl (by decide +kernel) rfl (by decide +kernel)
    (List.forall_mem_cons.mpr ⟨⟨RX9, TX9, 39, rfl, by decide, fun w h => mIn (inM_X9 w h), mIn (mAt (i := 3) (by decide +kernel)), fun h => absurd h (by decide)⟩, fun _ h => absurd h List.not_mem_nil⟩)
    (fun _ h => absurd h List.not_mem_nil)
    (fun _ h => absurd h List.not_mem_nil) rfl rfl (by decide +kernel) (by decide) (by decide)
-- FlashBoardModel.push
def bsX9_push : List mBl := [(0, [(0, .aload_n 0, [], 0, 0), (1, .bipush 93, [], 93, 0), (3, .invokevirtual 231, [], 0, 0), (6, .istore_n 2, [], 0, 0), (7, .aload_n 0, [], 0, 0), (8, .iload_n 2, [], 0, 0), (9, .iload_n 1, [], 0, 0), (10, .invokevirtual 234, [], 0, 1), (13, .aload_n 0, [], 0, 0), (14, .bipush 93, [], 93, 0), (16, .iload_n 2, [], 0, 0), (17, .iconst 1, [], 1, 0), (18, .isub, [], 0, 0), (19, .invokevirtual 238, [], 0, 2), (22, .return_, [], 0, 0)], 23)]
def fdX9_push : mFt := []
def clX9_push : mCt := [(231, 0, 1, 12, spX9_pointer), (234, 0, 2, 12, spX9_store), (238, 0, 2, 12, spX9_setPointer)]
def spX9_push : mSp := mSpOf shM fdX9_push clX9_push bsX9_push 2 none
abbrev rmX9_push : Room := { frames := 3, cells := 0, slots := 0, locals := 64 }
abbrev wkX9_push : List Jvm.Cond := .code yX9_push cX9_push 3 none :: wM
set_option maxRecDepth 100000 in
set_option maxHeartbeats 4000000 in
theorem metX9_push (l : Launch) (D : va_G) (ad : Nat → Nat) (tc : Nat → ClassId) : mMet l D vwCl ad tc shM yX9_push wkX9_push rmX9_push spX9_push :=
  mMet_of (own := RX9) (ret := none) (Fd := fdX9_push) (Cl := clX9_push) (Ks := []) (Fi := []) (Ci := [(231, 0), (234, 0), (238, 0)]) (bs := bsX9_push) rfl (by decide +kernel) rfl (by decide +kernel)
    (fun _ h => absurd h List.not_mem_nil)
    (fun _ h => absurd h List.not_mem_nil)
    (List.forall_mem_cons.mpr ⟨Or.inl ⟨rfl, RX9, TX9, 39, yX9_pointer, cX9_pointer, 2, (some .int), wkX9_pointer, _, rmX9_pointer, rfl, mGoodV goodM (mAt (i := 38) (by decide +kernel)) (mAt (i := 39) (by decide +kernel)) (mAt (i := 40) (by decide +kernel)) (mAt (i := 8) (by decide +kernel)) (mAt (i := 2) (by decide +kernel)), rfl, rfl, rfl, by decide +kernel, by decide, metX9_pointer l D ad tc⟩, List.forall_mem_cons.mpr ⟨Or.inl ⟨rfl, RX9, TX9, 39, yX9_store, cX9_store, 3, none, wkX9_store, _, rmX9_store, rfl, mGoodV goodM (mAt (i := 123) (by decide +kernel)) (mAt (i := 124) (by decide +kernel)) (mAt (i := 125) (by decide +kernel)) (mAt (i := 8) (by decide +kernel)) (mAt (i := 100) (by decide +kernel)), rfl, rfl, rfl, by decide +kernel, by decide, metX9_store l D ad tc⟩, List.forall_mem_cons.mpr ⟨Or.inl ⟨rfl, RX9, TX9, 39, yX9_setPointer, cX9_setPointer, 3, none, wkX9_setPointer, _, rmX9_setPointer, rfl, mGoodV goodM (mAt (i := 142) (by decide +kernel)) (mAt (i := 143) (by decide +kernel)) (mAt (i := 144) (by decide +kernel)) (mAt (i := 8) (by decide +kernel)) (mAt (i := 140) (by decide +kernel)), rfl, rfl, rfl, by decide +kernel, by decide, metX9_setPointer l D ad tc⟩, fun _ h => absurd h List.not_mem_nil⟩⟩⟩) rfl rfl (by decide +kernel) (by decide) (by decide)
-- FlashBoardModel.pushPlace
def bsX9_pushPlace : List mBl := [(0, [(0, .aload_n 0, [], 0, 0), (1, .iload_n 1, [], 0, 0), (2, .sipush 255, [], 255, 0), (5, .iand, [], 0, 0), (6, .invokevirtual 244, [], 0, 0), (9, .aload_n 0, [], 0, 0), (10, .iload_n 1, [], 0, 0), (11, .bipush 8, [], 8, 0), (13, .ishr, [], 0, 0), (14, .invokevirtual 244, [], 0, 0), (17, .return_, [], 0, 0)], 18)]
def fdX9_pushPlace : mFt := []
def clX9_pushPlace : mCt := [(244, 0, 1, 12, spX9_push)]
def spX9_pushPlace : mSp := mSpOf shM fdX9_pushPlace clX9_pushPlace bsX9_pushPlace 2 none
abbrev rmX9_pushPlace : Room := { frames := 4, cells := 0, slots := 0, locals := 86 }
abbrev wkX9_pushPlace : List Jvm.Cond := .code yX9_pushPlace cX9_pushPlace 2 none :: wM
set_option maxRecDepth 100000 in
set_option maxHeartbeats 4000000 in
theorem metX9_pushPlace (l : Launch) (D : va_G) (ad : Nat → Nat) (tc : Nat → ClassId) : mMet l D vwCl ad tc shM yX9_pushPlace wkX9_pushPlace rmX9_pushPlace spX9_pushPlace :=
  mMet_of (own := RX9) (ret := none) (Fd := fdX9_pushPlace) (Cl := clX9_pushPlace) (Ks := []) (Fi := []) (Ci := [(244, 0)]) (bs := bsX9_pushPlace) rfl (by decide +kernel) rfl (by decide +kernel)
    (fun _ h => absurd h List.not_mem_nil)
    (fun _ h => absurd h List.not_mem_nil)
    (List.forall_mem_cons.mpr ⟨Or.inl ⟨rfl, RX9, TX9, 39, yX9_push, cX9_push, 3, none, wkX9_push, _, rmX9_push, rfl, mGoodV goodM (mAt (i := 146) (by decide +kernel)) (mAt (i := 147) (by decide +kernel)) (mAt (i := 148) (by decide +kernel)) (mAt (i := 8) (by decide +kernel)) (mAt (i := 141) (by decide +kernel)), rfl, rfl, rfl, by decide +kernel, by decide, metX9_push l D ad tc⟩, fun _ h => absurd h List.not_mem_nil⟩) rfl rfl (by decide +kernel) (by decide) (by decide)
-- FlashBoardModel.enter
def bsX9_enter : List mBl := [(0, [(0, .aload_n 0, [], 0, 0), (1, .iconst 0, [], 0, 0), (2, .putfield 80, [], 0, 0), (5, .aload_n 0, [], 0, 0), (6, .aload_n 0, [], 0, 0), (7, .getfield 77, [], 0, 1), (10, .invokevirtual 169, [], 0, 0), (13, .iload_n 1, [], 0, 0), (14, .iconst 1, [], 1, 0), (15, .if_icmp .ne 33, [(48, 0)], 0, 0), (18, .aload_n 0, [], 0, 0), (19, .getfield 16, [], 0, 2), (22, .bipush 96, [], 96, 0), (24, .dup2, [], 0, 0), (25, .iaload, [], 0, 0), (26, .aload_n 0, [], 0, 0), (27, .getfield 16, [], 0, 2), (30, .bipush 96, [], 96, 0), (32, .iaload, [], 0, 0), (33, .bipush 8, [], 8, 0), (35, .iand, [], 0, 0), (36, .ifCond .eq 8, [(44, 0)], 0, 0), (39, .bipush 63, [], 63, 0), (41, .goto 5, [(46, 0)], 0, 0)], 44),
  (44, [(44, .bipush 127, [], 127, 0)], 46),
  (46, [(46, .iand, [], 0, 0), (47, .iastore, [], 0, 0)], 48),
  (48, [(48, .iload_n 1, [], 0, 0), (49, .iconst 2, [], 2, 0), (50, .if_icmp .ne 16, [(66, 0)], 0, 0), (53, .aload_n 0, [], 0, 0), (54, .getfield 16, [], 0, 2), (57, .bipush 53, [], 53, 0), (59, .dup2, [], 0, 0), (60, .iaload, [], 0, 0), (61, .sipush 253, [], 253, 0), (64, .iand, [], 0, 0), (65, .iastore, [], 0, 0)], 66),
  (66, [(66, .iload_n 1, [], 0, 0), (67, .iconst 3, [], 3, 0), (68, .if_icmp .ne 16, [(84, 0)], 0, 0), (71, .aload_n 0, [], 0, 0), (72, .getfield 16, [], 0, 2), (75, .bipush 53, [], 53, 0), (77, .dup2, [], 0, 0), (78, .iaload, [], 0, 0), (79, .sipush 254, [], 254, 0), (82, .iand, [], 0, 0), (83, .iastore, [], 0, 0)], 84),
  (84, [(84, .iload_n 1, [], 0, 0), (85, .bipush 6, [], 6, 0), (87, .if_icmp .ne 17, [(104, 0)], 0, 0), (90, .aload_n 0, [], 0, 0), (91, .getfield 16, [], 0, 2), (94, .sipush 192, [], 192, 0), (97, .dup2, [], 0, 0), (98, .iaload, [], 0, 0), (99, .sipush 191, [], 191, 0), (102, .iand, [], 0, 0), (103, .iastore, [], 0, 0)], 104),
  (104, [(104, .aload_n 0, [], 0, 0), (105, .bipush 7, [], 7, 0), (107, .iconst 0, [], 0, 0), (108, .invokevirtual 172, [], 0, 1), (111, .aload_n 0, [], 0, 0), (112, .iconst 2, [], 2, 0), (113, .iload_n 1, [], 0, 0), (114, .imul, [], 0, 0), (115, .aload_n 0, [], 0, 0), (116, .getfield 16, [], 0, 2), (119, .bipush 85, [], 85, 0), (121, .iaload, [], 0, 0), (122, .iconst 2, [], 2, 0), (123, .iand, [], 0, 0), (124, .ifCond .eq 9, [(133, 0)], 0, 0), (127, .sipush 1536, [], 1536, 0), (130, .goto 4, [(134, 0)], 0, 0)], 133),
  (133, [(133, .iconst 0, [], 0, 0)], 134),
  (134, [(134, .iadd, [], 0, 0), (135, .putfield 77, [], 0, 1), (138, .aload_n 0, [], 0, 0), (139, .dup, [], 0, 0), (140, .getfield 176, [], 0, 3), (143, .iconst 1, [], 1, 0), (144, .iadd, [], 0, 0), (145, .putfield 176, [], 0, 3), (148, .return_, [], 0, 0)], 149)]
def fdX9_enter : mFt := [(80, 12, 10, 2), (77, 12, 12, 1), (16, 12, 3, 0), (176, 12, 15, 1)]
def clX9_enter : mCt := [(169, 0, 1, 12, spX9_pushPlace), (172, 0, 2, 12, spX9_setFlag)]
def spX9_enter : mSp := mSpOf shM fdX9_enter clX9_enter bsX9_enter 2 none
abbrev rmX9_enter : Room := { frames := 5, cells := 0, slots := 0, locals := 107 }
abbrev wkX9_enter : List Jvm.Cond := .code yX9_enter cX9_enter 2 none :: wM
set_option maxRecDepth 100000 in
set_option maxHeartbeats 4000000 in
theorem metX9_enter (l : Launch) (D : va_G) (ad : Nat → Nat) (tc : Nat → ClassId) : mMet l D vwCl ad tc shM yX9_enter wkX9_enter rmX9_enter spX9_enter :=
  mMet_of (own := RX9) (ret := none) (Fd := fdX9_enter) (Cl := clX9_enter) (Ks := []) (Fi := [(80, 0), (77, 0), (16, 0), (176, 0)]) (Ci := [(169, 0), (172, 0)]) (bs := bsX9_enter) rfl (by decide +kernel) rfl (by decide +kernel)
    (List.forall_mem_cons.mpr ⟨⟨RX9, TX9, 39, rfl, by decide, fun w h => mIn (inM_X9 w h), mIn (mAt (i := 16) (by decide +kernel)), fun _ => ⟨tyX9, tyX9_ok, nmX9, rfl, by decide +kernel⟩⟩, List.forall_mem_cons.mpr ⟨⟨RX9, TX9, 39, rfl, by decide, fun w h => mIn (inM_X9 w h), mIn (mAt (i := 15) (by decide +kernel)), fun _ => ⟨tyX9, tyX9_ok, nmX9, rfl, by decide +kernel⟩⟩, List.forall_mem_cons.mpr ⟨⟨RX9, TX9, 39, rfl, by decide, fun w h => mIn (inM_X9 w h), mIn (mAt (i := 3) (by decide +kernel)), fun h => absurd h (by decide)⟩, List.forall_mem_cons.mpr ⟨⟨RX9, TX9, 39, rfl, by decide, fun w h => mIn (inM_X9 w h), mIn (mAt (i := 19) (by decide +kernel)), fun _ => ⟨tyX9, tyX9_ok, nmX9, rfl, by decide +kernel⟩⟩, fun _ h => absurd h List.not_mem_nil⟩⟩⟩⟩)
    (fun _ h => absurd h List.not_mem_nil)
    (List.forall_mem_cons.mpr ⟨Or.inl ⟨rfl, RX9, TX9, 39, yX9_pushPlace, cX9_pushPlace, 2, none, wkX9_pushPlace, _, rmX9_pushPlace, rfl, mGoodV goodM (mAt (i := 150) (by decide +kernel)) (mAt (i := 151) (by decide +kernel)) (mAt (i := 152) (by decide +kernel)) (mAt (i := 8) (by decide +kernel)) (mAt (i := 145) (by decide +kernel)), rfl, rfl, rfl, by decide +kernel, by decide, metX9_pushPlace l D ad tc⟩, List.forall_mem_cons.mpr ⟨Or.inl ⟨rfl, RX9, TX9, 39, yX9_setFlag, cX9_setFlag, 3, none, wkX9_setFlag, _, rmX9_setFlag, rfl, mGoodV goodM (mAt (i := 47) (by decide +kernel)) (mAt (i := 48) (by decide +kernel)) (mAt (i := 49) (by decide +kernel)) (mAt (i := 8) (by decide +kernel)) (mAt (i := 45) (by decide +kernel)), rfl, rfl, rfl, by decide +kernel, by decide, metX9_setFlag l D ad tc⟩, fun _ h => absurd h List.not_mem_nil⟩⟩) rfl rfl (by decide +kernel) (by decide) (by decide)
-- FlashBoardModel.flashByte
def bsX9_flashByte : List mBl := [(0, [(0, .aload_n 0, [], 0, 0), (1, .getfield 98, [], 0, 0), (4, .ifCond .le 72, [(76, 0)], 0, 0), (7, .aload_n 0, [], 0, 0), (8, .getfield 16, [], 0, 1), (11, .bipush 87, [], 87, 0), (13, .iaload, [], 0, 0), (14, .iconst 1, [], 1, 0), (15, .ishr, [], 0, 0), (16, .bipush 15, [], 15, 0), (18, .iand, [], 0, 0), (19, .iconst 4, [], 4, 0), (20, .if_icmp .ne 56, [(76, 0)], 0, 0), (23, .aload_n 0, [], 0, 0), (24, .iconst 0, [], 0, 0), (25, .putfield 98, [], 0, 0), (28, .aload_n 0, [], 0, 0), (29, .getfield 16, [], 0, 1), (32, .bipush 87, [], 87, 0), (34, .dup2, [], 0, 0), (35, .iaload, [], 0, 0), (36, .sipush 224, [], 224, 0), (39, .iand, [], 0, 0), (40, .iastore, [], 0, 0), (41, .iload_n 1, [], 0, 0), (42, .iconst 1, [], 1, 0), (43, .if_icmp .ne 14, [(57, 0)], 0, 0), (46, .aload_n 0, [], 0, 0), (47, .getfield 26, [], 0, 2), (50, .sipush 240, [], 240, 0), (53, .ior, [], 0, 0), (54, .goto 21, [(75, 0)], 0, 0)], 57),
  (57, [(57, .iload_n 1, [], 0, 0), (58, .ifCond .ne 14, [(72, 0)], 0, 0), (61, .aload_n 0, [], 0, 0), (62, .getfield 30, [], 0, 3), (65, .sipush 254, [], 254, 0), (68, .ior, [], 0, 0), (69, .goto 6, [(75, 0)], 0, 0)], 72),
  (72, [(72, .sipush 255, [], 255, 0)], 75),
  (75, [(75, .ireturn, [], 0, 0)], 76),
  (76, [(76, .iload_n 1, [], 0, 0), (77, .iconst 1, [], 1, 0), (78, .ishr, [], 0, 0), (79, .sipush 2047, [], 2047, 0), (82, .iand, [], 0, 0), (83, .istore_n 2, [], 0, 0), (84, .iload_n 2, [], 0, 0), (85, .sipush 1536, [], 1536, 0), (88, .if_icmp .lt 7, [(95, 0)], 0, 0), (91, .iconst 1, [], 1, 0), (92, .goto 4, [(96, 0)], 0, 0)], 95),
  (95, [(95, .iconst 0, [], 0, 0)], 96),
  (96, [(96, .istore_n 3, [], 0, 0), (97, .iload_n 3, [], 0, 0), (98, .aload_n 0, [], 0, 0), (99, .getfield 256, [], 0, 4), (102, .sipush 1536, [], 1536, 0), (105, .if_icmp .lt 7, [(112, 0)], 0, 0), (108, .iconst 1, [], 1, 0), (109, .goto 4, [(113, 0)], 0, 0)], 112),
  (112, [(112, .iconst 0, [], 0, 0)], 113),
  (113, [(113, .if_icmp .eq 26, [(139, 0)], 0, 0), (116, .aload_n 0, [], 0, 0), (117, .getfield 26, [], 0, 2), (120, .iload_n 3, [], 0, 0), (121, .ifCond .eq 7, [(128, 0)], 0, 0), (124, .iconst 3, [], 3, 0), (125, .goto 4, [(129, 0)], 0, 0)], 128),
  (128, [(128, .iconst 1, [], 1, 0)], 129),
  (129, [(129, .ishr, [], 0, 0), (130, .iconst 1, [], 1, 0), (131, .iand, [], 0, 0), (132, .ifCond .ne 7, [(139, 0)], 0, 0), (135, .sipush 255, [], 255, 0), (138, .ireturn, [], 0, 0)], 139),
  (139, [(139, .iload_n 1, [], 0, 0), (140, .iconst 2, [], 2, 0), (141, .irem, [], 0, 0), (142, .ifCond .ne 15, [(157, 0)], 0, 0), (145, .aload_n 0, [], 0, 0), (146, .iload_n 2, [], 0, 0), (147, .invokevirtual 228, [], 0, 0), (150, .sipush 255, [], 255, 0), (153, .iand, [], 0, 0), (154, .goto 11, [(165, 0)], 0, 0)], 157),
  (157, [(157, .aload_n 0, [], 0, 0), (158, .iload_n 2, [], 0, 0), (159, .invokevirtual 228, [], 0, 0), (162, .bipush 8, [], 8, 0), (164, .ishr, [], 0, 0)], 165),
  (165, [(165, .ireturn, [], 0, 0)], 166)]
def fdX9_flashByte : mFt := [(98, 12, 21, 1), (16, 12, 3, 0), (26, 12, 6, 1), (30, 12, 7, 1), (256, 12, 38, 1)]
def clX9_flashByte : mCt := [(228, 0, 1, 12, spX9_code)]
def spX9_flashByte : mSp := mSpOf shM fdX9_flashByte clX9_flashByte bsX9_flashByte 2 (some .int)
abbrev rmX9_flashByte : Room := { frames := 1, cells := 0, slots := 0, locals := 22 }
abbrev wkX9_flashByte : List Jvm.Cond := .code yX9_flashByte cX9_flashByte 4 (some .int) :: wM
set_option maxRecDepth 100000 in
set_option maxHeartbeats 4000000 in
theorem metX9_flashByte (l : Launch) (D : va_G) (ad : Nat → Nat) (tc : Nat → ClassId) : mMet l D vwCl ad tc shM yX9_flashByte wkX9_flashByte rmX9_flashByte spX9_flashByte :=
  mMet_of (own := RX9) (ret := (some .int)) (Fd := fdX9_flashByte) (Cl := clX9_flashByte) (Ks := []) (Fi := [(98, 0), (16, 0), (26, 0), (30, 0), (256, 0)]) (Ci := [(228, 0)]) (bs := bsX9_flashByte) rfl (by decide +kernel) rfl (by decide +kernel)
    (List.forall_mem_cons.mpr ⟨⟨RX9, TX9, 39, rfl, by decide, fun w h => mIn (inM_X9 w h), mIn (mAt (i := 30) (by decide +kernel)), fun _ => ⟨tyX9, tyX9_ok, nmX9, rfl, by decide +kernel⟩⟩, List.forall_mem_cons.mpr ⟨⟨RX9, TX9, 39, rfl, by decide, fun w h => mIn (inM_X9 w h), mIn (mAt (i := 3) (by decide +kernel)), fun h => absurd h (by decide)⟩, List.forall_mem_cons.mpr ⟨⟨RX9, TX9, 39, rfl, by decide, fun w h => mIn (inM_X9 w h), mIn (mAt (i := 154) (by decide +kernel)), fun _ => ⟨tyX9, tyX9_ok, nmX9, rfl, by decide +kernel⟩⟩, List.forall_mem_cons.mpr ⟨⟨RX9, TX9, 39, rfl, by decide, fun w h => mIn (inM_X9 w h), mIn (mAt (i := 130) (by decide +kernel)), fun _ => ⟨tyX9, tyX9_ok, nmX9, rfl, by decide +kernel⟩⟩, List.forall_mem_cons.mpr ⟨⟨RX9, TX9, 39, rfl, by decide, fun w h => mIn (inM_X9 w h), mIn (mAt (i := 155) (by decide +kernel)), fun _ => ⟨tyX9, tyX9_ok, nmX9, rfl, by decide +kernel⟩⟩, fun _ h => absurd h List.not_mem_nil⟩⟩⟩⟩⟩)
    (fun _ h => absurd h List.not_mem_nil)
    (List.forall_mem_cons.mpr ⟨Or.inl ⟨rfl, RX9, TX9, 39, yX9_code, cX9_code, 3, (some .int), wkX9_code, _, rmX9_code, rfl, mGoodV goodM (mAt (i := 60) (by decide +kernel)) (mAt (i := 61) (by decide +kernel)) (mAt (i := 62) (by decide +kernel)) (mAt (i := 8) (by decide +kernel)) (mAt (i := 56) (by decide +kernel)), rfl, rfl, rfl, by decide +kernel, by decide, metX9_code l D ad tc⟩, fun _ h => absurd h List.not_mem_nil⟩) rfl rfl (by decide +kernel) (by decide) (by decide)
-- FlashBoardModel.frame
def bsX9_frame : List mBl := [(0, [(0, .aload_n 0, [], 0, 0), (1, .getfield 16, [], 0, 0), (4, .sipush 197, [], 197, 0), (7, .iaload, [], 0, 0), (8, .bipush 15, [], 15, 0), (10, .iand, [], 0, 0), (11, .bipush 8, [], 8, 0), (13, .ishl, [], 0, 0), (14, .aload_n 0, [], 0, 0), (15, .getfield 16, [], 0, 0), (18, .sipush 196, [], 196, 0), (21, .iaload, [], 0, 0), (22, .ior, [], 0, 0), (23, .iconst 1, [], 1, 0), (24, .iadd, [], 0, 0), (25, .aload_n 0, [], 0, 0), (26, .getfield 16, [], 0, 0), (29, .sipush 192, [], 192, 0), (32, .iaload, [], 0, 0), (33, .iconst 2, [], 2, 0), (34, .iand, [], 0, 0), (35, .ifCond .eq 8, [(43, 0)], 0, 0), (38, .bipush 80, [], 80, 0), (40, .goto 6, [(46, 0)], 0, 0)], 43),
  (43, [(43, .sipush 160, [], 160, 0)], 46),
  (46, [(46, .imul, [], 0, 0), (47, .ireturn, [], 0, 0)], 48)]
def fdX9_frame : mFt := [(16, 12, 3, 0)]
def clX9_frame : mCt := []
def spX9_frame : mSp := mSpOf shM fdX9_frame clX9_frame bsX9_frame 1 (some .int)
abbrev rmX9_frame : Room := { frames := 0, cells := 0, slots := 0, locals := 0 }
abbrev wkX9_frame : List Jvm.Cond := .code yX9_frame cX9_frame 1 (some .int) :: wM
set_option maxRecDepth 100000 in
set_option maxHeartbeats 4000000 in
theorem metX9_frame (l : Launch) (D : va_G) (ad : Nat → Nat) (tc : Nat → ClassId) : mMet l D vwCl ad tc shM yX9_frame wkX9_frame rmX9_frame spX9_frame :=
  mMet_of (own := RX9) (ret := (some .int)) (Fd := fdX9_frame) (Cl := clX9_frame) (Ks := []) (Fi := [(16, 0)]) (Ci := []) (bs := bsX9_frame) rfl (by decide +kernel) rfl (by decide +kernel)
    (List.forall_mem_cons.mpr ⟨⟨RX9, TX9, 39, rfl, by decide, fun w h => mIn (inM_X9 w h), mIn (mAt (i := 3) (by decide +kernel)), fun h => absurd h (by decide)⟩, fun _ h => absurd h List.not_mem_nil⟩)
    (fun _ h => absurd h List.not_mem_nil)
    (fun _ h => absurd h List.not_mem_nil) rfl rfl (by decide +kernel) (by decide) (by decide)
-- FlashBoardModel.fuses
def bsX9_fuses : List mBl := [(0, [(0, .aload_n 0, [], 0, 0), (1, .iconst 0, [], 0, 0), (2, .putfield 74, [], 0, 0), (5, .aload_n 0, [], 0, 0), (6, .getfield 30, [], 0, 1), (9, .iconst 4, [], 4, 0), (10, .ishl, [], 0, 0), (11, .aload_n 0, [], 0, 0), (12, .getfield 26, [], 0, 2), (15, .ior, [], 0, 0), (16, .istore_n 2, [], 0, 0), (17, .aload_n 0, [], 0, 0), (18, .iload_n 1, [], 0, 0), (19, .bipush 15, [], 15, 0), (21, .iand, [], 0, 0), (22, .putfield 26, [], 0, 2), (25, .aload_n 0, [], 0, 0), (26, .iload_n 1, [], 0, 0), (27, .iconst 4, [], 4, 0), (28, .ishr, [], 0, 0), (29, .iconst 1, [], 1, 0), (30, .iand, [], 0, 0), (31, .putfield 30, [], 0, 1), (34, .iload_n 2, [], 0, 0), (35, .ireturn, [], 0, 0)], 36)]
def fdX9_fuses : mFt := [(74, 12, 0, 1), (30, 12, 7, 1), (26, 12, 6, 1)]
def clX9_fuses : mCt := []
def spX9_fuses : mSp := mSpOf shM fdX9_fuses clX9_fuses bsX9_fuses 2 (some .int)
abbrev rmX9_fuses : Room := { frames := 0, cells := 0, slots := 0, locals := 0 }
abbrev wkX9_fuses : List Jvm.Cond := .code yX9_fuses cX9_fuses 3 (some .int) :: wM
set_option maxRecDepth 100000 in
set_option maxHeartbeats 4000000 in
theorem metX9_fuses (l : Launch) (D : va_G) (ad : Nat → Nat) (tc : Nat → ClassId) : mMet l D vwCl ad tc shM yX9_fuses wkX9_fuses rmX9_fuses spX9_fuses :=
  mMet_of (own := RX9) (ret := (some .int)) (Fd := fdX9_fuses) (Cl := clX9_fuses) (Ks := []) (Fi := [(74, 0), (30, 0), (26, 0)]) (Ci := []) (bs := bsX9_fuses) rfl (by decide +kernel) rfl (by decide +kernel)
    (List.forall_mem_cons.mpr ⟨⟨RX9, TX9, 39, rfl, by decide, fun w h => mIn (inM_X9 w h), mIn (mAt (i := 1) (by decide +kernel)), fun _ => ⟨tyX9, tyX9_ok, nmX9, rfl, by decide +kernel⟩⟩, List.forall_mem_cons.mpr ⟨⟨RX9, TX9, 39, rfl, by decide, fun w h => mIn (inM_X9 w h), mIn (mAt (i := 130) (by decide +kernel)), fun _ => ⟨tyX9, tyX9_ok, nmX9, rfl, by decide +kernel⟩⟩, List.forall_mem_cons.mpr ⟨⟨RX9, TX9, 39, rfl, by decide, fun w h => mIn (inM_X9 w h), mIn (mAt (i := 154) (by decide +kernel)), fun _ => ⟨tyX9, tyX9_ok, nmX9, rfl, by decide +kernel⟩⟩, fun _ h => absurd h List.not_mem_nil⟩⟩⟩)
    (fun _ h => absurd h List.not_mem_nil)
    (fun _ h => absurd h List.not_mem_nil) rfl rfl (by decide +kernel) (by decide) (by decide)
-- FlashBoardModel.got
def bsX9_got : List mBl := [(0, [(0, .aload_n 0, [], 0, 0), (1, .iload_n 1, [], 0, 0), (2, .ifCond .lt 22, [(24, 0)], 0, 0), (5, .iload_n 1, [], 0, 0), (6, .aload_n 0, [], 0, 0), (7, .getfield 201, [], 0, 0), (10, .if_icmp .ge 14, [(24, 0)], 0, 0), (13, .iload_n 1, [], 0, 0), (14, .sipush 1000, [], 1000, 0), (17, .if_icmp .ge 7, [(24, 0)], 0, 0), (20, .iconst 1, [], 1, 0), (21, .goto 4, [(25, 0)], 0, 0)], 24),
  (24, [(24, .iconst 0, [], 0, 0)], 25),
  (25, [(25, .invokevirtual 359, [], 0, 0), (28, .ifCond .eq 12, [(40, 0)], 0, 0), (31, .aload_n 0, [], 0, 0), (32, .getfield 40, [], 0, 1), (35, .iload_n 1, [], 0, 0), (36, .iaload, [], 0, 0), (37, .goto 4, [(41, 0)], 0, 0)], 40),
  (40, [(40, .iconst 0, [], 0, 0)], 41),
  (41, [(41, .ireturn, [], 0, 0)], 42)]
def fdX9_got : mFt := [(201, 12, 36, 1), (40, 12, 34, 0)]
def clX9_got : mCt := [(359, 0, 1, 12, spX9_right)]
def spX9_got : mSp := mSpOf shM fdX9_got clX9_got bsX9_got 2 (some .int)
abbrev rmX9_got : Room := { frames := 1, cells := 0, slots := 0, locals := 21 }
abbrev wkX9_got : List Jvm.Cond := .code yX9_got cX9_got 2 (some .int) :: wM
set_option maxRecDepth 100000 in
set_option maxHeartbeats 4000000 in
theorem metX9_got (l : Launch) (D : va_G) (ad : Nat → Nat) (tc : Nat → ClassId) : mMet l D vwCl ad tc shM yX9_got wkX9_got rmX9_got spX9_got :=
  mMet_of (own := RX9) (ret := (some .int)) (Fd := fdX9_got) (Cl := clX9_got) (Ks := []) (Fi := [(201, 0), (40, 0)]) (Ci := [(359, 0)]) (bs := bsX9_got) rfl (by decide +kernel) rfl (by decide +kernel)
    (List.forall_mem_cons.mpr ⟨⟨RX9, TX9, 39, rfl, by decide, fun w h => mIn (inM_X9 w h), mIn (mAt (i := 159) (by decide +kernel)), fun _ => ⟨tyX9, tyX9_ok, nmX9, rfl, by decide +kernel⟩⟩, List.forall_mem_cons.mpr ⟨⟨RX9, TX9, 39, rfl, by decide, fun w h => mIn (inM_X9 w h), mIn (mAt (i := 160) (by decide +kernel)), fun h => absurd h (by decide)⟩, fun _ h => absurd h List.not_mem_nil⟩⟩)
    (fun _ h => absurd h List.not_mem_nil)
    (List.forall_mem_cons.mpr ⟨Or.inl ⟨rfl, RX9, TX9, 39, yX9_right, cX9_right, 2, (some .boolean), wkX9_right, _, rmX9_right, rfl, mGoodV goodM (mAt (i := 35) (by decide +kernel)) (mAt (i := 36) (by decide +kernel)) (mAt (i := 37) (by decide +kernel)) (mAt (i := 8) (by decide +kernel)) (mAt (i := 0) (by decide +kernel)), rfl, rfl, rfl, by decide +kernel, by decide, metX9_right l D ad tc⟩, fun _ h => absurd h List.not_mem_nil⟩) rfl rfl (by decide +kernel) (by decide) (by decide)
-- FlashBoardModel.host
def bsX9_host : List mBl := [(0, [(0, .aload_n 0, [], 0, 0), (1, .iconst 0, [], 0, 0), (2, .putfield 74, [], 0, 0), (5, .aload_n 0, [], 0, 0), (6, .getfield 204, [], 0, 1), (9, .sipush 300, [], 300, 0), (12, .if_icmp .ne 5, [(17, 0)], 0, 0), (15, .iconst (-1), [], (-1), 0), (16, .ireturn, [], 0, 0)], 17),
  (17, [(17, .aload_n 0, [], 0, 0), (18, .getfield 37, [], 0, 2), (21, .aload_n 0, [], 0, 0), (22, .getfield 204, [], 0, 1), (25, .iload_n 1, [], 0, 0), (26, .sipush 255, [], 255, 0), (29, .iand, [], 0, 0), (30, .iastore, [], 0, 0), (31, .aload_n 0, [], 0, 0), (32, .dup, [], 0, 0), (33, .getfield 204, [], 0, 1), (36, .iconst 1, [], 1, 0), (37, .iadd, [], 0, 0), (38, .putfield 204, [], 0, 1), (41, .aload_n 0, [], 0, 0), (42, .getfield 204, [], 0, 1), (45, .ireturn, [], 0, 0)], 46)]
def fdX9_host : mFt := [(74, 12, 0, 1), (204, 12, 35, 1), (37, 12, 33, 0)]
def clX9_host : mCt := []
def spX9_host : mSp := mSpOf shM fdX9_host clX9_host bsX9_host 2 (some .int)
abbrev rmX9_host : Room := { frames := 0, cells := 0, slots := 0, locals := 0 }
abbrev wkX9_host : List Jvm.Cond := .code yX9_host cX9_host 2 (some .int) :: wM
set_option maxRecDepth 100000 in
set_option maxHeartbeats 4000000 in
theorem metX9_host (l : Launch) (D : va_G) (ad : Nat → Nat) (tc : Nat → ClassId) : mMet l D vwCl ad tc shM yX9_host wkX9_host rmX9_host spX9_host :=
  mMet_of (own := RX9) (ret := (some .int)) (Fd := fdX9_host) (Cl := clX9_host) (Ks := []) (Fi := [(74, 0), (204, 0), (37, 0)]) (Ci := []) (bs := bsX9_host) rfl (by decide +kernel) rfl (by decide +kernel)
    (List.forall_mem_cons.mpr ⟨⟨RX9, TX9, 39, rfl, by decide, fun w h => mIn (inM_X9 w h), mIn (mAt (i := 1) (by decide +kernel)), fun _ => ⟨tyX9, tyX9_ok, nmX9, rfl, by decide +kernel⟩⟩, List.forall_mem_cons.mpr ⟨⟨RX9, TX9, 39, rfl, by decide, fun w h => mIn (inM_X9 w h), mIn (mAt (i := 25) (by decide +kernel)), fun _ => ⟨tyX9, tyX9_ok, nmX9, rfl, by decide +kernel⟩⟩, List.forall_mem_cons.mpr ⟨⟨RX9, TX9, 39, rfl, by decide, fun w h => mIn (inM_X9 w h), mIn (mAt (i := 162) (by decide +kernel)), fun h => absurd h (by decide)⟩, fun _ h => absurd h List.not_mem_nil⟩⟩⟩)
    (fun _ h => absurd h List.not_mem_nil)
    (fun _ h => absurd h List.not_mem_nil) rfl rfl (by decide +kernel) (by decide) (by decide)
-- FlashBoardModel.product
def bsX9_product : List mBl := [(0, [(0, .aload_n 0, [], 0, 0), (1, .iconst 0, [], 0, 0), (2, .iload_n 1, [], 0, 0), (3, .ldc_w 272, [], 32768, 0), (6, .iand, [], 0, 0), (7, .ifCond .eq 7, [(14, 0)], 0, 0), (10, .iconst 1, [], 1, 0), (11, .goto 4, [(15, 0)], 0, 0)], 14),
  (14, [(14, .iconst 0, [], 0, 0)], 15),
  (15, [(15, .invokevirtual 172, [], 0, 0), (18, .iload_n 2, [], 0, 0), (19, .ifCond .eq 9, [(28, 0)], 0, 0), (22, .iconst 2, [], 2, 0), (23, .iload_n 1, [], 0, 0), (24, .imul, [], 0, 0), (25, .goto 4, [(29, 0)], 0, 0)], 28),
  (28, [(28, .iload_n 1, [], 0, 0)], 29),
  (29, [(29, .ldc 43, [], 65535, 1), (31, .iand, [], 0, 0), (32, .istore_n 3, [], 0, 0), (33, .aload_n 0, [], 0, 0), (34, .iconst 0, [], 0, 0), (35, .iload_n 3, [], 0, 0), (36, .invokevirtual 238, [], 0, 1), (39, .aload_n 0, [], 0, 0), (40, .iconst 1, [], 1, 0), (41, .iload_n 3, [], 0, 0), (42, .ifCond .ne 7, [(49, 0)], 0, 0), (45, .iconst 1, [], 1, 0), (46, .goto 4, [(50, 0)], 0, 0)], 49),
  (49, [(49, .iconst 0, [], 0, 0)], 50),
  (50, [(50, .invokevirtual 172, [], 0, 0), (53, .return_, [], 0, 0)], 54)]
def fdX9_product : mFt := []
def clX9_product : mCt := [(172, 0, 2, 12, spX9_setFlag), (238, 0, 2, 12, spX9_setPointer)]
def spX9_product : mSp := mSpOf shM fdX9_product clX9_product bsX9_product 3 none
abbrev rmX9_product : Room := { frames := 1, cells := 0, slots := 0, locals := 22 }
abbrev wkX9_product : List Jvm.Cond := .code yX9_product cX9_product 4 none :: wM
set_option maxRecDepth 100000 in
set_option maxHeartbeats 4000000 in
theorem metX9_product (l : Launch) (D : va_G) (ad : Nat → Nat) (tc : Nat → ClassId) : mMet l D vwCl ad tc shM yX9_product wkX9_product rmX9_product spX9_product :=
  mMet_of (own := RX9) (ret := none) (Fd := fdX9_product) (Cl := clX9_product) (Ks := [(272, 32768), (43, 65535)]) (Fi := []) (Ci := [(172, 0), (238, 0)]) (bs := bsX9_product) rfl (by decide +kernel) rfl (by decide +kernel)
    (fun _ h => absurd h List.not_mem_nil)
    (List.forall_mem_cons.mpr ⟨mIn (mAt (i := 164) (by decide +kernel)), List.forall_mem_cons.mpr ⟨mIn (mAt (i := 58) (by decide +kernel)), fun _ h => absurd h List.not_mem_nil⟩⟩)
    (List.forall_mem_cons.mpr ⟨Or.inl ⟨rfl, RX9, TX9, 39, yX9_setFlag, cX9_setFlag, 3, none, wkX9_setFlag, _, rmX9_setFlag, rfl, mGoodV goodM (mAt (i := 47) (by decide +kernel)) (mAt (i := 48) (by decide +kernel)) (mAt (i := 49) (by decide +kernel)) (mAt (i := 8) (by decide +kernel)) (mAt (i := 45) (by decide +kernel)), rfl, rfl, rfl, by decide +kernel, by decide, metX9_setFlag l D ad tc⟩, List.forall_mem_cons.mpr ⟨Or.inl ⟨rfl, RX9, TX9, 39, yX9_setPointer, cX9_setPointer, 3, none, wkX9_setPointer, _, rmX9_setPointer, rfl, mGoodV goodM (mAt (i := 142) (by decide +kernel)) (mAt (i := 143) (by decide +kernel)) (mAt (i := 144) (by decide +kernel)) (mAt (i := 8) (by decide +kernel)) (mAt (i := 140) (by decide +kernel)), rfl, rfl, rfl, by decide +kernel, by decide, metX9_setPointer l D ad tc⟩, fun _ h => absurd h List.not_mem_nil⟩⟩) rfl rfl (by decide +kernel) (by decide) (by decide)
-- FlashBoardModel.moves
def bsX9_moves : List mBl := [(0, [(0, .iload_n 1, [], 0, 0), (1, .iconst 4, [], 4, 0), (2, .ishr, [], 0, 0), (3, .bipush 15, [], 15, 0), (5, .iand, [], 0, 0), (6, .istore_n 2, [], 0, 0), (7, .iload_n 1, [], 0, 0), (8, .bipush 15, [], 15, 0), (10, .iand, [], 0, 0), (11, .istore_n 3, [], 0, 0), (12, .iload_n 1, [], 0, 0), (13, .bipush 8, [], 8, 0), (15, .ishr, [], 0, 0), (16, .tableswitch 197 1 3 #[28, 74, 106], [(44, 1), (90, 2), (122, 3), (213, 0)], 0, 28)], 44),
  (44, [(44, .aload_n 0, [], 0, 0), (45, .getfield 16, [], 0, 0), (48, .iconst 2, [], 2, 0), (49, .iload_n 3, [], 0, 0), (50, .imul, [], 0, 0), (51, .iaload, [], 0, 0), (52, .istore 4, [], 0, 0), (54, .aload_n 0, [], 0, 0), (55, .getfield 16, [], 0, 0), (58, .iconst 2, [], 2, 0), (59, .iload_n 3, [], 0, 0), (60, .imul, [], 0, 0), (61, .iconst 1, [], 1, 0), (62, .iadd, [], 0, 0), (63, .iaload, [], 0, 0), (64, .istore 5, [], 0, 0), (66, .aload_n 0, [], 0, 0), (67, .getfield 16, [], 0, 0), (70, .iconst 2, [], 2, 0), (71, .iload_n 2, [], 0, 0), (72, .imul, [], 0, 0), (73, .iload 4, [], 0, 0), (75, .iastore, [], 0, 0), (76, .aload_n 0, [], 0, 0), (77, .getfield 16, [], 0, 0), (80, .iconst 2, [], 2, 0), (81, .iload_n 2, [], 0, 0), (82, .imul, [], 0, 0), (83, .iconst 1, [], 1, 0), (84, .iadd, [], 0, 0), (85, .iload 5, [], 0, 0), (87, .iastore, [], 0, 0), (88, .iconst 1, [], 1, 0), (89, .ireturn, [], 0, 0)], 90),
  (90, [(90, .aload_n 0, [], 0, 0), (91, .aload_n 0, [], 0, 0), (92, .getfield 16, [], 0, 0), (95, .bipush 16, [], 16, 0), (97, .iload_n 2, [], 0, 0), (98, .iadd, [], 0, 0), (99, .iaload, [], 0, 0), (100, .invokestatic 250, [], 0, 0), (103, .aload_n 0, [], 0, 0), (104, .getfield 16, [], 0, 0), (107, .bipush 16, [], 16, 0), (109, .iload_n 3, [], 0, 0), (110, .iadd, [], 0, 0), (111, .iaload, [], 0, 0), (112, .invokestatic 250, [], 0, 0), (115, .imul, [], 0, 0), (116, .iconst 0, [], 0, 0), (117, .invokevirtual 305, [], 0, 1), (120, .iconst 2, [], 2, 0), (121, .ireturn, [], 0, 0)], 122),
  (122, [(122, .aload_n 0, [], 0, 0), (123, .getfield 16, [], 0, 0), (126, .bipush 16, [], 16, 0), (128, .iload_n 2, [], 0, 0), (129, .bipush 7, [], 7, 0), (131, .iand, [], 0, 0), (132, .iadd, [], 0, 0), (133, .iaload, [], 0, 0), (134, .istore 6, [], 0, 0), (136, .aload_n 0, [], 0, 0), (137, .getfield 16, [], 0, 0), (140, .bipush 16, [], 16, 0), (142, .iload_n 3, [], 0, 0), (143, .bipush 7, [], 7, 0), (145, .iand, [], 0, 0), (146, .iadd, [], 0, 0), (147, .iaload, [], 0, 0), (148, .istore 7, [], 0, 0), (150, .iload_n 1, [], 0, 0), (151, .bipush 6, [], 6, 0), (153, .ishr, [], 0, 0), (154, .iconst 2, [], 2, 0), (155, .iand, [], 0, 0), (156, .iload_n 1, [], 0, 0), (157, .iconst 3, [], 3, 0), (158, .ishr, [], 0, 0), (159, .iconst 1, [], 1, 0), (160, .iand, [], 0, 0), (161, .ior, [], 0, 0), (162, .istore 8, [], 0, 0), (164, .aload_n 0, [], 0, 0), (165, .iload 8, [], 0, 0), (167, .iconst 1, [], 1, 0), (168, .if_icmp .ne 8, [(176, 0)], 0, 0), (171, .iload 6, [], 0, 0), (173, .goto 8, [(181, 0)], 0, 0)], 176),
  (176, [(176, .iload 6, [], 0, 0), (178, .invokestatic 250, [], 0, 0)], 181),
  (181, [(181, .iload 8, [], 0, 0), (183, .iconst 2, [], 2, 0), (184, .if_icmp .ne 11, [(195, 0)], 0, 0), (187, .iload 7, [], 0, 0), (189, .invokestatic 250, [], 0, 0), (192, .goto 5, [(197, 0)], 0, 0)], 195),
  (195, [(195, .iload 7, [], 0, 0)], 197),
  (197, [(197, .imul, [], 0, 0), (198, .iload 8, [], 0, 0), (200, .ifCond .eq 7, [(207, 0)], 0, 0), (203, .iconst 1, [], 1, 0), (204, .goto 4, [(208, 0)], 0, 0)], 207),
  (207, [(207, .iconst 0, [], 0, 0)], 208),
  (208, [(208, .invokevirtual 305, [], 0, 1), (211, .iconst 2, [], 2, 0), (212, .ireturn, [], 0, 0)], 213),
  (213, [(213, .iconst 1, [], 1, 0), (214, .ireturn, [], 0, 0)], 215)]
def fdX9_moves : mFt := [(16, 12, 3, 0)]
def clX9_moves : mCt := [(250, 1, 1, 0, spX9_signed), (305, 0, 2, 12, spX9_product)]
def spX9_moves : mSp := mSpOf shM fdX9_moves clX9_moves bsX9_moves 2 (some .int)
abbrev rmX9_moves : Room := { frames := 2, cells := 0, slots := 0, locals := 45 }
abbrev wkX9_moves : List Jvm.Cond := .code yX9_moves cX9_moves 9 (some .int) :: wM
set_option maxRecDepth 100000 in
set_option maxHeartbeats 4000000 in
theorem metX9_moves (l : Launch) (D : va_G) (ad : Nat → Nat) (tc : Nat → ClassId) : mMet l D vwCl ad tc shM yX9_moves wkX9_moves rmX9_moves spX9_moves :=
  mMet_of (own := RX9) (ret := (some .int)) (Fd := fdX9_moves) (Cl := clX9_moves) (Ks := []) (Fi := [(16, 0)]) (Ci := [(250, 1), (305, 0)]) (bs := bsX9_moves) rfl (by decide +kernel) rfl (by decide +kernel)
    (List.forall_mem_cons.mpr ⟨⟨RX9, TX9, 39, rfl, by decide, fun w h => mIn (inM_X9 w h), mIn (mAt (i := 3) (by decide +kernel)), fun h => absurd h (by decide)⟩, fun _ h => absurd h List.not_mem_nil⟩)
    (fun _ h => absurd h List.not_mem_nil)
    (List.forall_mem_cons.mpr ⟨Or.inr ⟨rfl, yX9_signed, cX9_signed, 1, (some .int), wkX9_signed, _, rmX9_signed, mGoodS goodM (mAt (i := 51) (by decide +kernel)) (mAt (i := 52) (by decide +kernel)) (mAt (i := 8) (by decide +kernel)) (mAt (i := 44) (by decide +kernel)), rfl, rfl, rfl, by decide +kernel, by decide, metX9_signed l D ad tc⟩, List.forall_mem_cons.mpr ⟨Or.inl ⟨rfl, RX9, TX9, 39, yX9_product, cX9_product, 4, none, wkX9_product, _, rmX9_product, rfl, mGoodV goodM (mAt (i := 166) (by decide +kernel)) (mAt (i := 167) (by decide +kernel)) (mAt (i := 168) (by decide +kernel)) (mAt (i := 8) (by decide +kernel)) (mAt (i := 163) (by decide +kernel)), rfl, rfl, rfl, by decide +kernel, by decide, metX9_product l D ad tc⟩, fun _ h => absurd h List.not_mem_nil⟩⟩) rfl rfl (by decide +kernel) (by decide) (by decide)
-- FlashBoardModel.subtract
def bsX9_subtract : List mBl := [(0, [(0, .aload_n 0, [], 0, 0), (1, .iconst 1, [], 1, 0), (2, .invokevirtual 163, [], 0, 0), (5, .istore 5, [], 0, 0), (7, .iload_n 1, [], 0, 0), (8, .iload_n 2, [], 0, 0), (9, .isub, [], 0, 0), (10, .iload_n 3, [], 0, 0), (11, .isub, [], 0, 0), (12, .sipush 255, [], 255, 0), (15, .iand, [], 0, 0), (16, .istore 6, [], 0, 0), (18, .iload_n 1, [], 0, 0), (19, .invokestatic 250, [], 0, 1), (22, .iload_n 2, [], 0, 0), (23, .invokestatic 250, [], 0, 1), (26, .isub, [], 0, 0), (27, .iload_n 3, [], 0, 0), (28, .isub, [], 0, 0), (29, .istore 7, [], 0, 0), (31, .aload_n 0, [], 0, 0), (32, .iconst 5, [], 5, 0), (33, .iload_n 1, [], 0, 0), (34, .bipush 15, [], 15, 0), (36, .iand, [], 0, 0), (37, .iload_n 2, [], 0, 0), (38, .bipush 15, [], 15, 0), (40, .iand, [], 0, 0), (41, .isub, [], 0, 0), (42, .iload_n 3, [], 0, 0), (43, .isub, [], 0, 0), (44, .ifCond .ge 7, [(51, 0)], 0, 0), (47, .iconst 1, [], 1, 0), (48, .goto 4, [(52, 0)], 0, 0)], 51),
  (51, [(51, .iconst 0, [], 0, 0)], 52),
  (52, [(52, .invokevirtual 172, [], 0, 2), (55, .aload_n 0, [], 0, 0), (56, .iconst 0, [], 0, 0), (57, .iload_n 1, [], 0, 0), (58, .iload_n 2, [], 0, 0), (59, .isub, [], 0, 0), (60, .iload_n 3, [], 0, 0), (61, .isub, [], 0, 0), (62, .ifCond .ge 7, [(69, 0)], 0, 0), (65, .iconst 1, [], 1, 0), (66, .goto 4, [(70, 0)], 0, 0)], 69),
  (69, [(69, .iconst 0, [], 0, 0)], 70),
  (70, [(70, .invokevirtual 172, [], 0, 2), (73, .aload_n 0, [], 0, 0), (74, .iconst 3, [], 3, 0), (75, .iload 7, [], 0, 0), (77, .bipush (-128), [], (-128), 0), (79, .if_icmp .lt 10, [(89, 0)], 0, 0), (82, .iload 7, [], 0, 0), (84, .bipush 127, [], 127, 0), (86, .if_icmp .le 7, [(93, 0)], 0, 0)], 89),
  (89, [(89, .iconst 1, [], 1, 0), (90, .goto 4, [(94, 0)], 0, 0)], 93),
  (93, [(93, .iconst 0, [], 0, 0)], 94),
  (94, [(94, .invokevirtual 172, [], 0, 2), (97, .aload_n 0, [], 0, 0), (98, .iload 6, [], 0, 0), (100, .invokevirtual 253, [], 0, 3), (103, .iload 4, [], 0, 0), (105, .ifCond .eq 23, [(128, 0)], 0, 0), (108, .aload_n 0, [], 0, 0), (109, .iconst 1, [], 1, 0), (110, .iload 6, [], 0, 0), (112, .ifCond .ne 12, [(124, 0)], 0, 0), (115, .iload 5, [], 0, 0), (117, .ifCond .eq 7, [(124, 0)], 0, 0), (120, .iconst 1, [], 1, 0), (121, .goto 4, [(125, 0)], 0, 0)], 124),
  (124, [(124, .iconst 0, [], 0, 0)], 125),
  (125, [(125, .invokevirtual 172, [], 0, 2)], 128),
  (128, [(128, .iload 6, [], 0, 0), (130, .ireturn, [], 0, 0)], 131)]
def fdX9_subtract : mFt := []
def clX9_subtract : mCt := [(163, 0, 1, 12, spX9_flag), (250, 1, 1, 0, spX9_signed), (172, 0, 2, 12, spX9_setFlag), (253, 0, 1, 12, spX9_zero)]
def spX9_subtract : mSp := mSpOf shM fdX9_subtract clX9_subtract bsX9_subtract 5 (some .int)
abbrev rmX9_subtract : Room := { frames := 2, cells := 0, slots := 0, locals := 43 }
abbrev wkX9_subtract : List Jvm.Cond := .code yX9_subtract cX9_subtract 8 (some .int) :: wM
set_option maxRecDepth 100000 in
set_option maxHeartbeats 4000000 in
theorem metX9_subtract (l : Launch) (D : va_G) (ad : Nat → Nat) (tc : Nat → ClassId) : mMet l D vwCl ad tc shM yX9_subtract wkX9_subtract rmX9_subtract spX9_subtract :=
  mMet_of (own := RX9) (ret := (some .int)) (Fd := fdX9_subtract) (Cl := clX9_subtract) (Ks := []) (Fi := []) (Ci := [(163, 0), (250, 1), (172, 0), (253, 0)]) (bs := bsX9_subtract) rfl (by decide +kernel) rfl (by decide +kernel)
    (fun _ h => absurd h List.not_mem_nil)
    (fun _ h => absurd h List.not_mem_nil)
    (List.forall_mem_cons.mpr ⟨Or.inl ⟨rfl, RX9, TX9, 39, yX9_flag, cX9_flag, 2, (some .boolean), wkX9_flag, _, rmX9_flag, rfl, mGoodV goodM (mAt (i := 7) (by decide +kernel)) (mAt (i := 9) (by decide +kernel)) (mAt (i := 10) (by decide +kernel)) (mAt (i := 8) (by decide +kernel)) (mAt (i := 4) (by decide +kernel)), rfl, rfl, rfl, by decide +kernel, by decide, metX9_flag l D ad tc⟩, List.forall_mem_cons.mpr ⟨Or.inr ⟨rfl, yX9_signed, cX9_signed, 1, (some .int), wkX9_signed, _, rmX9_signed, mGoodS goodM (mAt (i := 51) (by decide +kernel)) (mAt (i := 52) (by decide +kernel)) (mAt (i := 8) (by decide +kernel)) (mAt (i := 44) (by decide +kernel)), rfl, rfl, rfl, by decide +kernel, by decide, metX9_signed l D ad tc⟩, List.forall_mem_cons.mpr ⟨Or.inl ⟨rfl, RX9, TX9, 39, yX9_setFlag, cX9_setFlag, 3, none, wkX9_setFlag, _, rmX9_setFlag, rfl, mGoodV goodM (mAt (i := 47) (by decide +kernel)) (mAt (i := 48) (by decide +kernel)) (mAt (i := 49) (by decide +kernel)) (mAt (i := 8) (by decide +kernel)) (mAt (i := 45) (by decide +kernel)), rfl, rfl, rfl, by decide +kernel, by decide, metX9_setFlag l D ad tc⟩, List.forall_mem_cons.mpr ⟨Or.inl ⟨rfl, RX9, TX9, 39, yX9_zero, cX9_zero, 2, none, wkX9_zero, _, rmX9_zero, rfl, mGoodV goodM (mAt (i := 53) (by decide +kernel)) (mAt (i := 54) (by decide +kernel)) (mAt (i := 55) (by decide +kernel)) (mAt (i := 8) (by decide +kernel)) (mAt (i := 46) (by decide +kernel)), rfl, rfl, rfl, by decide +kernel, by decide, metX9_zero l D ad tc⟩, fun _ h => absurd h List.not_mem_nil⟩⟩⟩⟩) rfl rfl (by decide +kernel) (by decide) (by decide)
-- FlashBoardModel.logic
def bsX9_logic : List mBl := [(0, [(0, .aload_n 0, [], 0, 0), (1, .iconst 3, [], 3, 0), (2, .iconst 0, [], 0, 0), (3, .invokevirtual 172, [], 0, 0), (6, .aload_n 0, [], 0, 0), (7, .iload_n 1, [], 0, 0), (8, .invokevirtual 253, [], 0, 1), (11, .iload_n 1, [], 0, 0), (12, .ireturn, [], 0, 0)], 13)]
def fdX9_logic : mFt := []
def clX9_logic : mCt := [(172, 0, 2, 12, spX9_setFlag), (253, 0, 1, 12, spX9_zero)]
def spX9_logic : mSp := mSpOf shM fdX9_logic clX9_logic bsX9_logic 2 (some .int)
abbrev rmX9_logic : Room := { frames := 2, cells := 0, slots := 0, locals := 43 }
abbrev wkX9_logic : List Jvm.Cond := .code yX9_logic cX9_logic 2 (some .int) :: wM
set_option maxRecDepth 100000 in
set_option maxHeartbeats 4000000 in
theorem metX9_logic (l : Launch) (D : va_G) (ad : Nat → Nat) (tc : Nat → ClassId) : mMet l D vwCl ad tc shM yX9_logic wkX9_logic rmX9_logic spX9_logic :=
  mMet_of (own := RX9) (ret := (some .int)) (Fd := fdX9_logic) (Cl := clX9_logic) (Ks := []) (Fi := []) (Ci := [(172, 0), (253, 0)]) (bs := bsX9_logic) rfl (by decide +kernel) rfl (by decide +kernel)
    (fun _ h => absurd h List.not_mem_nil)
    (fun _ h => absurd h List.not_mem_nil)
    (List.forall_mem_cons.mpr ⟨Or.inl ⟨rfl, RX9, TX9, 39, yX9_setFlag, cX9_setFlag, 3, none, wkX9_setFlag, _, rmX9_setFlag, rfl, mGoodV goodM (mAt (i := 47) (by decide +kernel)) (mAt (i := 48) (by decide +kernel)) (mAt (i := 49) (by decide +kernel)) (mAt (i := 8) (by decide +kernel)) (mAt (i := 45) (by decide +kernel)), rfl, rfl, rfl, by decide +kernel, by decide, metX9_setFlag l D ad tc⟩, List.forall_mem_cons.mpr ⟨Or.inl ⟨rfl, RX9, TX9, 39, yX9_zero, cX9_zero, 2, none, wkX9_zero, _, rmX9_zero, rfl, mGoodV goodM (mAt (i := 53) (by decide +kernel)) (mAt (i := 54) (by decide +kernel)) (mAt (i := 55) (by decide +kernel)) (mAt (i := 8) (by decide +kernel)) (mAt (i := 46) (by decide +kernel)), rfl, rfl, rfl, by decide +kernel, by decide, metX9_zero l D ad tc⟩, fun _ h => absurd h List.not_mem_nil⟩⟩) rfl rfl (by decide +kernel) (by decide) (by decide)
-- FlashBoardModel.ofTwo
def bsX9_ofTwo : List mBl := [(0, [(0, .iload_n 1, [], 0, 0), (1, .iconst 4, [], 4, 0), (2, .ishr, [], 0, 0), (3, .bipush 31, [], 31, 0), (5, .iand, [], 0, 0), (6, .istore_n 2, [], 0, 0), (7, .iload_n 1, [], 0, 0), (8, .bipush 15, [], 15, 0), (10, .iand, [], 0, 0), (11, .iload_n 1, [], 0, 0), (12, .iconst 5, [], 5, 0), (13, .ishr, [], 0, 0), (14, .bipush 16, [], 16, 0), (16, .iand, [], 0, 0), (17, .ior, [], 0, 0), (18, .istore_n 3, [], 0, 0), (19, .aload_n 0, [], 0, 0), (20, .getfield 16, [], 0, 0), (23, .iload_n 2, [], 0, 0), (24, .iaload, [], 0, 0), (25, .istore 4, [], 0, 0), (27, .aload_n 0, [], 0, 0), (28, .getfield 16, [], 0, 0), (31, .iload_n 3, [], 0, 0), (32, .iaload, [], 0, 0), (33, .istore 5, [], 0, 0), (35, .iload_n 1, [], 0, 0), (36, .bipush 10, [], 10, 0), (38, .ishr, [], 0, 0), (39, .tableswitch 237 0 10 #[57, 63, 79, 100, 117, 135, 148, 166, 186, 203, 220], [(96, 0), (102, 1), (118, 2), (139, 3), (156, 4), (174, 5), (187, 6), (205, 7), (225, 8), (242, 9), (259, 10), (276, 0)], 0, 57)], 96),
  (96, [(96, .aload_n 0, [], 0, 0), (97, .iload_n 1, [], 0, 0), (98, .invokevirtual 285, [], 0, 0), (101, .ireturn, [], 0, 0)], 102),
  (102, [(102, .aload_n 0, [], 0, 0), (103, .iload 4, [], 0, 0), (105, .iload 5, [], 0, 0), (107, .aload_n 0, [], 0, 0), (108, .invokevirtual 288, [], 0, 1), (111, .iconst 1, [], 1, 0), (112, .invokevirtual 291, [], 0, 2), (115, .pop, [], 0, 0), (116, .iconst 1, [], 1, 0), (117, .ireturn, [], 0, 0)], 118),
  (118, [(118, .aload_n 0, [], 0, 0), (119, .getfield 16, [], 0, 0), (122, .iload_n 2, [], 0, 0), (123, .aload_n 0, [], 0, 0), (124, .iload 4, [], 0, 0), (126, .iload 5, [], 0, 0), (128, .aload_n 0, [], 0, 0), (129, .invokevirtual 288, [], 0, 1), (132, .iconst 1, [], 1, 0), (133, .invokevirtual 291, [], 0, 2), (136, .iastore, [], 0, 0), (137, .iconst 1, [], 1, 0), (138, .ireturn, [], 0, 0)], 139),
  (139, [(139, .aload_n 0, [], 0, 0), (140, .getfield 16, [], 0, 0), (143, .iload_n 2, [], 0, 0), (144, .aload_n 0, [], 0, 0), (145, .iload 4, [], 0, 0), (147, .iload 5, [], 0, 0), (149, .iconst 0, [], 0, 0), (150, .invokevirtual 295, [], 0, 3), (153, .iastore, [], 0, 0), (154, .iconst 1, [], 1, 0), (155, .ireturn, [], 0, 0)], 156),
  (156, [(156, .iload 4, [], 0, 0), (158, .iload 5, [], 0, 0), (160, .if_icmp .ne 12, [(172, 0)], 0, 0), (163, .iconst 1, [], 1, 0), (164, .aload_n 0, [], 0, 0), (165, .invokevirtual 299, [], 0, 4), (168, .iadd, [], 0, 0), (169, .goto 4, [(173, 0)], 0, 0)], 172),
  (172, [(172, .iconst 1, [], 1, 0)], 173),
  (173, [(173, .ireturn, [], 0, 0)], 174),
  (174, [(174, .aload_n 0, [], 0, 0), (175, .iload 4, [], 0, 0), (177, .iload 5, [], 0, 0), (179, .iconst 0, [], 0, 0), (180, .iconst 0, [], 0, 0), (181, .invokevirtual 291, [], 0, 2), (184, .pop, [], 0, 0), (185, .iconst 1, [], 1, 0), (186, .ireturn, [], 0, 0)], 187),
  (187, [(187, .aload_n 0, [], 0, 0), (188, .getfield 16, [], 0, 0), (191, .iload_n 2, [], 0, 0), (192, .aload_n 0, [], 0, 0), (193, .iload 4, [], 0, 0), (195, .iload 5, [], 0, 0), (197, .iconst 0, [], 0, 0), (198, .iconst 0, [], 0, 0), (199, .invokevirtual 291, [], 0, 2), (202, .iastore, [], 0, 0), (203, .iconst 1, [], 1, 0), (204, .ireturn, [], 0, 0)], 205),
  (205, [(205, .aload_n 0, [], 0, 0), (206, .getfield 16, [], 0, 0), (209, .iload_n 2, [], 0, 0), (210, .aload_n 0, [], 0, 0), (211, .iload 4, [], 0, 0), (213, .iload 5, [], 0, 0), (215, .aload_n 0, [], 0, 0), (216, .invokevirtual 288, [], 0, 1), (219, .invokevirtual 295, [], 0, 3), (222, .iastore, [], 0, 0), (223, .iconst 1, [], 1, 0), (224, .ireturn, [], 0, 0)], 225),
  (225, [(225, .aload_n 0, [], 0, 0), (226, .getfield 16, [], 0, 0), (229, .iload_n 2, [], 0, 0), (230, .aload_n 0, [], 0, 0), (231, .iload 4, [], 0, 0), (233, .iload 5, [], 0, 0), (235, .iand, [], 0, 0), (236, .invokevirtual 302, [], 0, 5), (239, .iastore, [], 0, 0), (240, .iconst 1, [], 1, 0), (241, .ireturn, [], 0, 0)], 242),
  (242, [(242, .aload_n 0, [], 0, 0), (243, .getfield 16, [], 0, 0), (246, .iload_n 2, [], 0, 0), (247, .aload_n 0, [], 0, 0), (248, .iload 4, [], 0, 0), (250, .iload 5, [], 0, 0), (252, .ixor, [], 0, 0), (253, .invokevirtual 302, [], 0, 5), (256, .iastore, [], 0, 0), (257, .iconst 1, [], 1, 0), (258, .ireturn, [], 0, 0)], 259),
  (259, [(259, .aload_n 0, [], 0, 0), (260, .getfield 16, [], 0, 0), (263, .iload_n 2, [], 0, 0), (264, .aload_n 0, [], 0, 0), (265, .iload 4, [], 0, 0), (267, .iload 5, [], 0, 0), (269, .ior, [], 0, 0), (270, .invokevirtual 302, [], 0, 5), (273, .iastore, [], 0, 0), (274, .iconst 1, [], 1, 0), (275, .ireturn, [], 0, 0)], 276),
  (276, [(276, .aload_n 0, [], 0, 0), (277, .getfield 16, [], 0, 0), (280, .iload_n 2, [], 0, 0), (281, .iload 5, [], 0, 0), (283, .iastore, [], 0, 0), (284, .iconst 1, [], 1, 0), (285, .ireturn, [], 0, 0)], 286)]
def fdX9_ofTwo : mFt := [(16, 12, 3, 0)]
def clX9_ofTwo : mCt := [(285, 0, 1, 12, spX9_moves), (288, 0, 0, 12, spX9_carry), (291, 0, 4, 12, spX9_subtract), (295, 0, 3, 12, spX9_add), (299, 0, 0, 12, spX9_skips), (302, 0, 1, 12, spX9_logic)]
def spX9_ofTwo : mSp := mSpOf shM fdX9_ofTwo clX9_ofTwo bsX9_ofTwo 2 (some .int)
abbrev rmX9_ofTwo : Room := { frames := 3, cells := 0, slots := 0, locals := 73 }
abbrev wkX9_ofTwo : List Jvm.Cond := .code yX9_ofTwo cX9_ofTwo 6 (some .int) :: wM
set_option maxRecDepth 100000 in
set_option maxHeartbeats 4000000 in
theorem metX9_ofTwo (l : Launch) (D : va_G) (ad : Nat → Nat) (tc : Nat → ClassId) : mMet l D vwCl ad tc shM yX9_ofTwo wkX9_ofTwo rmX9_ofTwo spX9_ofTwo :=
  mMet_of (own := RX9) (ret := (some .int)) (Fd := fdX9_ofTwo) (Cl := clX9_ofTwo) (Ks := []) (Fi := [(16, 0)]) (Ci := [(285, 0), (288, 0), (291, 0), (295, 0), (299, 0), (302, 0)]) (bs := bsX9_ofTwo) rfl (by decide +kernel) rfl (by decide +kernel)
    (List.forall_mem_cons.mpr ⟨⟨RX9, TX9, 39, rfl, by decide, fun w h => mIn (inM_X9 w h), mIn (mAt (i := 3) (by decide +kernel)), fun h => absurd h (by decide)⟩, fun _ h => absurd h List.not_mem_nil⟩)
    (fun _ h => absurd h List.not_mem_nil)
    (List.forall_mem_cons.mpr ⟨Or.inl ⟨rfl, RX9, TX9, 39, yX9_moves, cX9_moves, 9, (some .int), wkX9_moves, _, rmX9_moves, rfl, mGoodV goodM (mAt (i := 172) (by decide +kernel)) (mAt (i := 173) (by decide +kernel)) (mAt (i := 174) (by decide +kernel)) (mAt (i := 8) (by decide +kernel)) (mAt (i := 165) (by decide +kernel)), rfl, rfl, rfl, by decide +kernel, by decide, metX9_moves l D ad tc⟩, List.forall_mem_cons.mpr ⟨Or.inl ⟨rfl, RX9, TX9, 39, yX9_carry, cX9_carry, 1, (some .int), wkX9_carry, _, rmX9_carry, rfl, mGoodV goodM (mAt (i := 175) (by decide +kernel)) (mAt (i := 176) (by decide +kernel)) (mAt (i := 177) (by decide +kernel)) (mAt (i := 8) (by decide +kernel)) (mAt (i := 80) (by decide +kernel)), rfl, rfl, rfl, by decide +kernel, by decide, metX9_carry l D ad tc⟩, List.forall_mem_cons.mpr ⟨Or.inl ⟨rfl, RX9, TX9, 39, yX9_subtract, cX9_subtract, 8, (some .int), wkX9_subtract, _, rmX9_subtract, rfl, mGoodV goodM (mAt (i := 178) (by decide +kernel)) (mAt (i := 179) (by decide +kernel)) (mAt (i := 180) (by decide +kernel)) (mAt (i := 8) (by decide +kernel)) (mAt (i := 169) (by decide +kernel)), rfl, rfl, rfl, by decide +kernel, by decide, metX9_subtract l D ad tc⟩, List.forall_mem_cons.mpr ⟨Or.inl ⟨rfl, RX9, TX9, 39, yX9_add, cX9_add, 6, (some .int), wkX9_add, _, rmX9_add, rfl, mGoodV goodM (mAt (i := 181) (by decide +kernel)) (mAt (i := 182) (by decide +kernel)) (mAt (i := 183) (by decide +kernel)) (mAt (i := 8) (by decide +kernel)) (mAt (i := 50) (by decide +kernel)), rfl, rfl, rfl, by decide +kernel, by decide, metX9_add l D ad tc⟩, List.forall_mem_cons.mpr ⟨Or.inl ⟨rfl, RX9, TX9, 39, yX9_skips, cX9_skips, 2, (some .int), wkX9_skips, _, rmX9_skips, rfl, mGoodV goodM (mAt (i := 72) (by decide +kernel)) (mAt (i := 73) (by decide +kernel)) (mAt (i := 74) (by decide +kernel)) (mAt (i := 8) (by decide +kernel)) (mAt (i := 63) (by decide +kernel)), rfl, rfl, rfl, by decide +kernel, by decide, metX9_skips l D ad tc⟩, List.forall_mem_cons.mpr ⟨Or.inl ⟨rfl, RX9, TX9, 39, yX9_logic, cX9_logic, 2, (some .int), wkX9_logic, _, rmX9_logic, rfl, mGoodV goodM (mAt (i := 184) (by decide +kernel)) (mAt (i := 185) (by decide +kernel)) (mAt (i := 186) (by decide +kernel)) (mAt (i := 8) (by decide +kernel)) (mAt (i := 170) (by decide +kernel)), rfl, rfl, rfl, by decide +kernel, by decide, metX9_logic l D ad tc⟩, fun _ h => absurd h List.not_mem_nil⟩⟩⟩⟩⟩⟩) rfl rfl (by decide +kernel) (by decide) (by decide)
-- FlashBoardModel.ofNumber
def bsX9_ofNumber : List mBl := [(0, [(0, .bipush 16, [], 16, 0), (2, .iload_n 1, [], 0, 0), (3, .iconst 4, [], 4, 0), (4, .ishr, [], 0, 0), (5, .bipush 15, [], 15, 0), (7, .iand, [], 0, 0), (8, .iadd, [], 0, 0), (9, .istore_n 2, [], 0, 0), (10, .iload_n 1, [], 0, 0), (11, .bipush 15, [], 15, 0), (13, .iand, [], 0, 0), (14, .iload_n 1, [], 0, 0), (15, .iconst 4, [], 4, 0), (16, .ishr, [], 0, 0), (17, .sipush 240, [], 240, 0), (20, .iand, [], 0, 0), (21, .ior, [], 0, 0), (22, .istore_n 3, [], 0, 0), (23, .aload_n 0, [], 0, 0), (24, .getfield 16, [], 0, 0), (27, .iload_n 2, [], 0, 0), (28, .iaload, [], 0, 0), (29, .istore 4, [], 0, 0), (31, .iload_n 1, [], 0, 0), (32, .bipush 12, [], 12, 0), (34, .ishr, [], 0, 0), (35, .tableswitch 119 3 7 #[33, 46, 67, 85, 102], [(68, 3), (81, 4), (102, 5), (120, 6), (137, 7), (154, 0)], 0, 33)], 68),
  (68, [(68, .aload_n 0, [], 0, 0), (69, .iload 4, [], 0, 0), (71, .iload_n 3, [], 0, 0), (72, .iconst 0, [], 0, 0), (73, .iconst 0, [], 0, 0), (74, .invokevirtual 291, [], 0, 0), (77, .pop, [], 0, 0), (78, .goto 83, [(161, 0)], 0, 0)], 81),
  (81, [(81, .aload_n 0, [], 0, 0), (82, .getfield 16, [], 0, 0), (85, .iload_n 2, [], 0, 0), (86, .aload_n 0, [], 0, 0), (87, .iload 4, [], 0, 0), (89, .iload_n 3, [], 0, 0), (90, .aload_n 0, [], 0, 0), (91, .invokevirtual 288, [], 0, 1), (94, .iconst 1, [], 1, 0), (95, .invokevirtual 291, [], 0, 0), (98, .iastore, [], 0, 0), (99, .goto 62, [(161, 0)], 0, 0)], 102),
  (102, [(102, .aload_n 0, [], 0, 0), (103, .getfield 16, [], 0, 0), (106, .iload_n 2, [], 0, 0), (107, .aload_n 0, [], 0, 0), (108, .iload 4, [], 0, 0), (110, .iload_n 3, [], 0, 0), (111, .iconst 0, [], 0, 0), (112, .iconst 0, [], 0, 0), (113, .invokevirtual 291, [], 0, 0), (116, .iastore, [], 0, 0), (117, .goto 44, [(161, 0)], 0, 0)], 120),
  (120, [(120, .aload_n 0, [], 0, 0), (121, .getfield 16, [], 0, 0), (124, .iload_n 2, [], 0, 0), (125, .aload_n 0, [], 0, 0), (126, .iload 4, [], 0, 0), (128, .iload_n 3, [], 0, 0), (129, .ior, [], 0, 0), (130, .invokevirtual 302, [], 0, 2), (133, .iastore, [], 0, 0), (134, .goto 27, [(161, 0)], 0, 0)], 137),
  (137, [(137, .aload_n 0, [], 0, 0), (138, .getfield 16, [], 0, 0), (141, .iload_n 2, [], 0, 0), (142, .aload_n 0, [], 0, 0), (143, .iload 4, [], 0, 0), (145, .iload_n 3, [], 0, 0), (146, .iand, [], 0, 0), (147, .invokevirtual 302, [], 0, 2), (150, .iastore, [], 0, 0), (151, .goto 10, [(161, 0)], 0, 0)], 154),
  (154, [(154, .aload_n 0, [], 0, 0), (155, .getfield 16, [], 0, 0), (158, .iload_n 2, [], 0, 0), (159, .iload_n 3, [], 0, 0), (160, .iastore, [], 0, 0)], 161),
  (161, [(161, .iconst 1, [], 1, 0), (162, .ireturn, [], 0, 0)], 163)]
def fdX9_ofNumber : mFt := [(16, 12, 3, 0)]
def clX9_ofNumber : mCt := [(291, 0, 4, 12, spX9_subtract), (288, 0, 0, 12, spX9_carry), (302, 0, 1, 12, spX9_logic)]
def spX9_ofNumber : mSp := mSpOf shM fdX9_ofNumber clX9_ofNumber bsX9_ofNumber 2 (some .int)
abbrev rmX9_ofNumber : Room := { frames := 3, cells := 0, slots := 0, locals := 70 }
abbrev wkX9_ofNumber : List Jvm.Cond := .code yX9_ofNumber cX9_ofNumber 5 (some .int) :: wM
set_option maxRecDepth 100000 in
set_option maxHeartbeats 4000000 in
theorem metX9_ofNumber (l : Launch) (D : va_G) (ad : Nat → Nat) (tc : Nat → ClassId) : mMet l D vwCl ad tc shM yX9_ofNumber wkX9_ofNumber rmX9_ofNumber spX9_ofNumber :=
  mMet_of (own := RX9) (ret := (some .int)) (Fd := fdX9_ofNumber) (Cl := clX9_ofNumber) (Ks := []) (Fi := [(16, 0)]) (Ci := [(291, 0), (288, 0), (302, 0)]) (bs := bsX9_ofNumber) rfl (by decide +kernel) rfl (by decide +kernel)
    (List.forall_mem_cons.mpr ⟨⟨RX9, TX9, 39, rfl, by decide, fun w h => mIn (inM_X9 w h), mIn (mAt (i := 3) (by decide +kernel)), fun h => absurd h (by decide)⟩, fun _ h => absurd h List.not_mem_nil⟩)
    (fun _ h => absurd h List.not_mem_nil)
    (List.forall_mem_cons.mpr ⟨Or.inl ⟨rfl, RX9, TX9, 39, yX9_subtract, cX9_subtract, 8, (some .int), wkX9_subtract, _, rmX9_subtract, rfl, mGoodV goodM (mAt (i := 178) (by decide +kernel)) (mAt (i := 179) (by decide +kernel)) (mAt (i := 180) (by decide +kernel)) (mAt (i := 8) (by decide +kernel)) (mAt (i := 169) (by decide +kernel)), rfl, rfl, rfl, by decide +kernel, by decide, metX9_subtract l D ad tc⟩, List.forall_mem_cons.mpr ⟨Or.inl ⟨rfl, RX9, TX9, 39, yX9_carry, cX9_carry, 1, (some .int), wkX9_carry, _, rmX9_carry, rfl, mGoodV goodM (mAt (i := 175) (by decide +kernel)) (mAt (i := 176) (by decide +kernel)) (mAt (i := 177) (by decide +kernel)) (mAt (i := 8) (by decide +kernel)) (mAt (i := 80) (by decide +kernel)), rfl, rfl, rfl, by decide +kernel, by decide, metX9_carry l D ad tc⟩, List.forall_mem_cons.mpr ⟨Or.inl ⟨rfl, RX9, TX9, 39, yX9_logic, cX9_logic, 2, (some .int), wkX9_logic, _, rmX9_logic, rfl, mGoodV goodM (mAt (i := 184) (by decide +kernel)) (mAt (i := 185) (by decide +kernel)) (mAt (i := 186) (by decide +kernel)) (mAt (i := 8) (by decide +kernel)) (mAt (i := 170) (by decide +kernel)), rfl, rfl, rfl, by decide +kernel, by decide, metX9_logic l D ad tc⟩, fun _ h => absurd h List.not_mem_nil⟩⟩⟩) rfl rfl (by decide +kernel) (by decide) (by decide)
-- FlashBoardModel.pop
def bsX9_pop : List mBl := [(0, [(0, .aload_n 0, [], 0, 0), (1, .bipush 93, [], 93, 0), (3, .invokevirtual 231, [], 0, 0), (6, .iconst 1, [], 1, 0), (7, .iadd, [], 0, 0), (8, .ldc 43, [], 65535, 0), (10, .iand, [], 0, 0), (11, .istore_n 1, [], 0, 0), (12, .aload_n 0, [], 0, 0), (13, .bipush 93, [], 93, 0), (15, .iload_n 1, [], 0, 0), (16, .invokevirtual 238, [], 0, 1), (19, .aload_n 0, [], 0, 0), (20, .iload_n 1, [], 0, 0), (21, .invokevirtual 241, [], 0, 2), (24, .ireturn, [], 0, 0)], 25)]
def fdX9_pop : mFt := []
def clX9_pop : mCt := [(231, 0, 1, 12, spX9_pointer), (238, 0, 2, 12, spX9_setPointer), (241, 0, 1, 12, spX9_load)]
def spX9_pop : mSp := mSpOf shM fdX9_pop clX9_pop bsX9_pop 1 (some .int)
abbrev rmX9_pop : Room := { frames := 2, cells := 0, slots := 0, locals := 43 }
abbrev wkX9_pop : List Jvm.Cond := .code yX9_pop cX9_pop 2 (some .int) :: wM
set_option maxRecDepth 100000 in
set_option maxHeartbeats 4000000 in
theorem metX9_pop (l : Launch) (D : va_G) (ad : Nat → Nat) (tc : Nat → ClassId) : mMet l D vwCl ad tc shM yX9_pop wkX9_pop rmX9_pop spX9_pop :=
  mMet_of (own := RX9) (ret := (some .int)) (Fd := fdX9_pop) (Cl := clX9_pop) (Ks := [(43, 65535)]) (Fi := []) (Ci := [(231, 0), (238, 0), (241, 0)]) (bs := bsX9_pop) rfl (by decide +kernel) rfl (by decide +kernel)
    (fun _ h => absurd h List.not_mem_nil)
    (List.forall_mem_cons.mpr ⟨mIn (mAt (i := 58) (by decide +kernel)), fun _ h => absurd h List.not_mem_nil⟩)
    (List.forall_mem_cons.mpr ⟨Or.inl ⟨rfl, RX9, TX9, 39, yX9_pointer, cX9_pointer, 2, (some .int), wkX9_pointer, _, rmX9_pointer, rfl, mGoodV goodM (mAt (i := 38) (by decide +kernel)) (mAt (i := 39) (by decide +kernel)) (mAt (i := 40) (by decide +kernel)) (mAt (i := 8) (by decide +kernel)) (mAt (i := 2) (by decide +kernel)), rfl, rfl, rfl, by decide +kernel, by decide, metX9_pointer l D ad tc⟩, List.forall_mem_cons.mpr ⟨Or.inl ⟨rfl, RX9, TX9, 39, yX9_setPointer, cX9_setPointer, 3, none, wkX9_setPointer, _, rmX9_setPointer, rfl, mGoodV goodM (mAt (i := 142) (by decide +kernel)) (mAt (i := 143) (by decide +kernel)) (mAt (i := 144) (by decide +kernel)) (mAt (i := 8) (by decide +kernel)) (mAt (i := 140) (by decide +kernel)), rfl, rfl, rfl, by decide +kernel, by decide, metX9_setPointer l D ad tc⟩, List.forall_mem_cons.mpr ⟨Or.inl ⟨rfl, RX9, TX9, 39, yX9_load, cX9_load, 3, (some .int), wkX9_load, _, rmX9_load, rfl, mGoodV goodM (mAt (i := 126) (by decide +kernel)) (mAt (i := 127) (by decide +kernel)) (mAt (i := 128) (by decide +kernel)) (mAt (i := 8) (by decide +kernel)) (mAt (i := 117) (by decide +kernel)), rfl, rfl, rfl, by decide +kernel, by decide, metX9_load l D ad tc⟩, fun _ h => absurd h List.not_mem_nil⟩⟩⟩) rfl rfl (by decide +kernel) (by decide) (by decide)
-- FlashBoardModel.place
def bsX9_place : List mBl := [(0, [(0, .iload_n 1, [], 0, 0), (1, .iconst 1, [], 1, 0), (2, .if_icmp .eq 8, [(10, 0)], 0, 0), (5, .iload_n 1, [], 0, 0), (6, .iconst 2, [], 2, 0), (7, .if_icmp .ne 8, [(15, 0)], 0, 0)], 10),
  (10, [(10, .bipush 30, [], 30, 0), (12, .goto 38, [(50, 0)], 0, 0)], 15),
  (15, [(15, .iload_n 1, [], 0, 0), (16, .bipush 9, [], 9, 0), (18, .if_icmp .eq 9, [(27, 0)], 0, 0), (21, .iload_n 1, [], 0, 0), (22, .bipush 10, [], 10, 0), (24, .if_icmp .ne 8, [(32, 0)], 0, 0)], 27),
  (27, [(27, .bipush 28, [], 28, 0), (29, .goto 21, [(50, 0)], 0, 0)], 32),
  (32, [(32, .iload_n 1, [], 0, 0), (33, .bipush 12, [], 12, 0), (35, .if_icmp .lt 14, [(49, 0)], 0, 0), (38, .iload_n 1, [], 0, 0), (39, .bipush 14, [], 14, 0), (41, .if_icmp .gt 8, [(49, 0)], 0, 0), (44, .bipush 26, [], 26, 0), (46, .goto 4, [(50, 0)], 0, 0)], 49),
  (49, [(49, .iconst (-1), [], (-1), 0)], 50),
  (50, [(50, .istore_n 2, [], 0, 0), (51, .iload_n 1, [], 0, 0), (52, .ifCond .ne 8, [(60, 0)], 0, 0), (55, .aload_n 0, [], 0, 0), (56, .invokevirtual 259, [], 0, 0), (59, .ireturn, [], 0, 0)], 60),
  (60, [(60, .iload_n 2, [], 0, 0), (61, .iconst (-1), [], (-1), 0), (62, .if_icmp .ne 5, [(67, 0)], 0, 0), (65, .iconst (-1), [], (-1), 0), (66, .ireturn, [], 0, 0)], 67),
  (67, [(67, .aload_n 0, [], 0, 0), (68, .iload_n 2, [], 0, 0), (69, .invokevirtual 231, [], 0, 1), (72, .istore_n 3, [], 0, 0), (73, .iload_n 1, [], 0, 0), (74, .bipush 12, [], 12, 0), (76, .if_icmp .ne 7, [(83, 0)], 0, 0), (79, .iconst 0, [], 0, 0), (80, .goto 25, [(105, 0)], 0, 0)], 83),
  (83, [(83, .iload_n 1, [], 0, 0), (84, .iconst 1, [], 1, 0), (85, .if_icmp .eq 15, [(100, 0)], 0, 0), (88, .iload_n 1, [], 0, 0), (89, .bipush 9, [], 9, 0), (91, .if_icmp .eq 9, [(100, 0)], 0, 0), (94, .iload_n 1, [], 0, 0), (95, .bipush 13, [], 13, 0), (97, .if_icmp .ne 7, [(104, 0)], 0, 0)], 100),
  (100, [(100, .iconst 1, [], 1, 0), (101, .goto 4, [(105, 0)], 0, 0)], 104),
  (104, [(104, .iconst (-1), [], (-1), 0)], 105),
  (105, [(105, .istore 4, [], 0, 0), (107, .aload_n 0, [], 0, 0), (108, .iload_n 2, [], 0, 0), (109, .iload_n 3, [], 0, 0), (110, .iload 4, [], 0, 0), (112, .iadd, [], 0, 0), (113, .invokevirtual 238, [], 0, 2), (116, .iload 4, [], 0, 0), (118, .iconst (-1), [], (-1), 0), (119, .if_icmp .ne 12, [(131, 0)], 0, 0), (122, .iload_n 3, [], 0, 0), (123, .iconst 1, [], 1, 0), (124, .isub, [], 0, 0), (125, .ldc 43, [], 65535, 0), (127, .iand, [], 0, 0), (128, .goto 4, [(132, 0)], 0, 0)], 131),
  (131, [(131, .iload_n 3, [], 0, 0)], 132),
  (132, [(132, .ireturn, [], 0, 0)], 133)]
def fdX9_place : mFt := []
def clX9_place : mCt := [(259, 0, 0, 12, spX9_next), (231, 0, 1, 12, spX9_pointer), (238, 0, 2, 12, spX9_setPointer)]
def spX9_place : mSp := mSpOf shM fdX9_place clX9_place bsX9_place 2 (some .int)
abbrev rmX9_place : Room := { frames := 2, cells := 0, slots := 0, locals := 43 }
abbrev wkX9_place : List Jvm.Cond := .code yX9_place cX9_place 5 (some .int) :: wM
set_option maxRecDepth 100000 in
set_option maxHeartbeats 4000000 in
theorem metX9_place (l : Launch) (D : va_G) (ad : Nat → Nat) (tc : Nat → ClassId) : mMet l D vwCl ad tc shM yX9_place wkX9_place rmX9_place spX9_place :=
  mMet_of (own := RX9) (ret := (some .int)) (Fd := fdX9_place) (Cl := clX9_place) (Ks := [(43, 65535)]) (Fi := []) (Ci := [(259, 0), (231, 0), (238, 0)]) (bs := bsX9_place) rfl (by decide +kernel) rfl (by decide +kernel)
    (fun _ h => absurd h List.not_mem_nil)
    (List.forall_mem_cons.mpr ⟨mIn (mAt (i := 58) (by decide +kernel)), fun _ h => absurd h List.not_mem_nil⟩)
    (List.forall_mem_cons.mpr ⟨Or.inl ⟨rfl, RX9, TX9, 39, yX9_next, cX9_next, 2, (some .int), wkX9_next, _, rmX9_next, rfl, mGoodV goodM (mAt (i := 68) (by decide +kernel)) (mAt (i := 69) (by decide +kernel)) (mAt (i := 70) (by decide +kernel)) (mAt (i := 8) (by decide +kernel)) (mAt (i := 59) (by decide +kernel)), rfl, rfl, rfl, by decide +kernel, by decide, metX9_next l D ad tc⟩, List.forall_mem_cons.mpr ⟨Or.inl ⟨rfl, RX9, TX9, 39, yX9_pointer, cX9_pointer, 2, (some .int), wkX9_pointer, _, rmX9_pointer, rfl, mGoodV goodM (mAt (i := 38) (by decide +kernel)) (mAt (i := 39) (by decide +kernel)) (mAt (i := 40) (by decide +kernel)) (mAt (i := 8) (by decide +kernel)) (mAt (i := 2) (by decide +kernel)), rfl, rfl, rfl, by decide +kernel, by decide, metX9_pointer l D ad tc⟩, List.forall_mem_cons.mpr ⟨Or.inl ⟨rfl, RX9, TX9, 39, yX9_setPointer, cX9_setPointer, 3, none, wkX9_setPointer, _, rmX9_setPointer, rfl, mGoodV goodM (mAt (i := 142) (by decide +kernel)) (mAt (i := 143) (by decide +kernel)) (mAt (i := 144) (by decide +kernel)) (mAt (i := 8) (by decide +kernel)) (mAt (i := 140) (by decide +kernel)), rfl, rfl, rfl, by decide +kernel, by decide, metX9_setPointer l D ad tc⟩, fun _ h => absurd h List.not_mem_nil⟩⟩⟩) rfl rfl (by decide +kernel) (by decide) (by decide)
-- FlashBoardModel.loads
def bsX9_loads : List mBl := [(0, [(0, .iload_n 1, [], 0, 0), (1, .iconst 4, [], 4, 0), (2, .ishr, [], 0, 0), (3, .bipush 31, [], 31, 0), (5, .iand, [], 0, 0), (6, .istore_n 2, [], 0, 0), (7, .iload_n 1, [], 0, 0), (8, .bipush 15, [], 15, 0), (10, .iand, [], 0, 0), (11, .istore_n 3, [], 0, 0), (12, .iload_n 3, [], 0, 0), (13, .iconst 4, [], 4, 0), (14, .if_icmp .eq 8, [(22, 0)], 0, 0), (17, .iload_n 3, [], 0, 0), (18, .iconst 5, [], 5, 0), (19, .if_icmp .ne 44, [(63, 0)], 0, 0)], 22),
  (22, [(22, .aload_n 0, [], 0, 0), (23, .bipush 30, [], 30, 0), (25, .invokevirtual 231, [], 0, 0), (28, .istore 4, [], 0, 0), (30, .aload_n 0, [], 0, 0), (31, .iload 4, [], 0, 0), (33, .invokevirtual 327, [], 0, 1), (36, .istore 5, [], 0, 0), (38, .iload_n 3, [], 0, 0), (39, .iconst 5, [], 5, 0), (40, .if_icmp .ne 13, [(53, 0)], 0, 0), (43, .aload_n 0, [], 0, 0), (44, .bipush 30, [], 30, 0), (46, .iload 4, [], 0, 0), (48, .iconst 1, [], 1, 0), (49, .iadd, [], 0, 0), (50, .invokevirtual 238, [], 0, 2)], 53),
  (53, [(53, .aload_n 0, [], 0, 0), (54, .getfield 16, [], 0, 0), (57, .iload_n 2, [], 0, 0), (58, .iload 5, [], 0, 0), (60, .iastore, [], 0, 0), (61, .iconst 3, [], 3, 0), (62, .ireturn, [], 0, 0)], 63),
  (63, [(63, .iload_n 3, [], 0, 0), (64, .bipush 15, [], 15, 0), (66, .if_icmp .ne 15, [(81, 0)], 0, 0), (69, .aload_n 0, [], 0, 0), (70, .getfield 16, [], 0, 0), (73, .iload_n 2, [], 0, 0), (74, .aload_n 0, [], 0, 0), (75, .invokevirtual 247, [], 0, 3), (78, .iastore, [], 0, 0), (79, .iconst 2, [], 2, 0), (80, .ireturn, [], 0, 0)], 81),
  (81, [(81, .aload_n 0, [], 0, 0), (82, .iload_n 3, [], 0, 0), (83, .invokevirtual 330, [], 0, 4), (86, .istore 4, [], 0, 0), (88, .iload 4, [], 0, 0), (90, .iconst (-1), [], (-1), 0), (91, .if_icmp .ne 5, [(96, 0)], 0, 0), (94, .iconst 1, [], 1, 0), (95, .ireturn, [], 0, 0)], 96),
  (96, [(96, .aload_n 0, [], 0, 0), (97, .getfield 16, [], 0, 0), (100, .iload_n 2, [], 0, 0), (101, .aload_n 0, [], 0, 0), (102, .iload 4, [], 0, 0), (104, .invokevirtual 241, [], 0, 5), (107, .iastore, [], 0, 0), (108, .iconst 2, [], 2, 0), (109, .ireturn, [], 0, 0)], 110)]
def fdX9_loads : mFt := [(16, 12, 3, 0)]
def clX9_loads : mCt := [(231, 0, 1, 12, spX9_pointer), (327, 0, 1, 12, spX9_flashByte), (238, 0, 2, 12, spX9_setPointer), (247, 0, 0, 12, spX9_pop), (330, 0, 1, 12, spX9_place), (241, 0, 1, 12, spX9_load)]
def spX9_loads : mSp := mSpOf shM fdX9_loads clX9_loads bsX9_loads 2 (some .int)
abbrev rmX9_loads : Room := { frames := 3, cells := 0, slots := 0, locals := 67 }
abbrev wkX9_loads : List Jvm.Cond := .code yX9_loads cX9_loads 6 (some .int) :: wM
set_option maxRecDepth 100000 in
set_option maxHeartbeats 4000000 in
theorem metX9_loads (l : Launch) (D : va_G) (ad : Nat → Nat) (tc : Nat → ClassId) : mMet l D vwCl ad tc shM yX9_loads wkX9_loads rmX9_loads spX9_loads :=
  mMet_of (own := RX9) (ret := (some .int)) (Fd := fdX9_loads) (Cl := clX9_loads) (Ks := []) (Fi := [(16, 0)]) (Ci := [(231, 0), (327, 0), (238, 0), (247, 0), (330, 0), (241, 0)]) (bs := bsX9_loads) rfl (by decide +kernel) rfl (by decide +kernel)
    (List.forall_mem_cons.mpr ⟨⟨RX9, TX9, 39, rfl, by decide, fun w h => mIn (inM_X9 w h), mIn (mAt (i := 3) (by decide +kernel)), fun h => absurd h (by decide)⟩, fun _ h => absurd h List.not_mem_nil⟩)
    (fun _ h => absurd h List.not_mem_nil)
    (List.forall_mem_cons.mpr ⟨Or.inl ⟨rfl, RX9, TX9, 39, yX9_pointer, cX9_pointer, 2, (some .int), wkX9_pointer, _, rmX9_pointer, rfl, mGoodV goodM (mAt (i := 38) (by decide +kernel)) (mAt (i := 39) (by decide +kernel)) (mAt (i := 40) (by decide +kernel)) (mAt (i := 8) (by decide +kernel)) (mAt (i := 2) (by decide +kernel)), rfl, rfl, rfl, by decide +kernel, by decide, metX9_pointer l D ad tc⟩, List.forall_mem_cons.mpr ⟨Or.inl ⟨rfl, RX9, TX9, 39, yX9_flashByte, cX9_flashByte, 4, (some .int), wkX9_flashByte, _, rmX9_flashByte, rfl, mGoodV goodM (mAt (i := 191) (by decide +kernel)) (mAt (i := 192) (by decide +kernel)) (mAt (i := 193) (by decide +kernel)) (mAt (i := 8) (by decide +kernel)) (mAt (i := 153) (by decide +kernel)), rfl, rfl, rfl, by decide +kernel, by decide, metX9_flashByte l D ad tc⟩, List.forall_mem_cons.mpr ⟨Or.inl ⟨rfl, RX9, TX9, 39, yX9_setPointer, cX9_setPointer, 3, none, wkX9_setPointer, _, rmX9_setPointer, rfl, mGoodV goodM (mAt (i := 142) (by decide +kernel)) (mAt (i := 143) (by decide +kernel)) (mAt (i := 144) (by decide +kernel)) (mAt (i := 8) (by decide +kernel)) (mAt (i := 140) (by decide +kernel)), rfl, rfl, rfl, by decide +kernel, by decide, metX9_setPointer l D ad tc⟩, List.forall_mem_cons.mpr ⟨Or.inl ⟨rfl, RX9, TX9, 39, yX9_pop, cX9_pop, 2, (some .int), wkX9_pop, _, rmX9_pop, rfl, mGoodV goodM (mAt (i := 194) (by decide +kernel)) (mAt (i := 195) (by decide +kernel)) (mAt (i := 196) (by decide +kernel)) (mAt (i := 8) (by decide +kernel)) (mAt (i := 188) (by decide +kernel)), rfl, rfl, rfl, by decide +kernel, by decide, metX9_pop l D ad tc⟩, List.forall_mem_cons.mpr ⟨Or.inl ⟨rfl, RX9, TX9, 39, yX9_place, cX9_place, 5, (some .int), wkX9_place, _, rmX9_place, rfl, mGoodV goodM (mAt (i := 197) (by decide +kernel)) (mAt (i := 198) (by decide +kernel)) (mAt (i := 199) (by decide +kernel)) (mAt (i := 8) (by decide +kernel)) (mAt (i := 189) (by decide +kernel)), rfl, rfl, rfl, by decide +kernel, by decide, metX9_place l D ad tc⟩, List.forall_mem_cons.mpr ⟨Or.inl ⟨rfl, RX9, TX9, 39, yX9_load, cX9_load, 3, (some .int), wkX9_load, _, rmX9_load, rfl, mGoodV goodM (mAt (i := 126) (by decide +kernel)) (mAt (i := 127) (by decide +kernel)) (mAt (i := 128) (by decide +kernel)) (mAt (i := 8) (by decide +kernel)) (mAt (i := 117) (by decide +kernel)), rfl, rfl, rfl, by decide +kernel, by decide, metX9_load l D ad tc⟩, fun _ h => absurd h List.not_mem_nil⟩⟩⟩⟩⟩⟩) rfl rfl (by decide +kernel) (by decide) (by decide)
-- FlashBoardModel.stores
def bsX9_stores : List mBl := [(0, [(0, .aload_n 0, [], 0, 0), (1, .getfield 16, [], 0, 0), (4, .iload_n 1, [], 0, 0), (5, .iconst 4, [], 4, 0), (6, .ishr, [], 0, 0), (7, .bipush 31, [], 31, 0), (9, .iand, [], 0, 0), (10, .iaload, [], 0, 0), (11, .istore_n 2, [], 0, 0), (12, .iload_n 1, [], 0, 0), (13, .bipush 15, [], 15, 0), (15, .iand, [], 0, 0), (16, .istore_n 3, [], 0, 0), (17, .iload_n 3, [], 0, 0), (18, .bipush 15, [], 15, 0), (20, .if_icmp .ne 10, [(30, 0)], 0, 0), (23, .aload_n 0, [], 0, 0), (24, .iload_n 2, [], 0, 0), (25, .invokevirtual 244, [], 0, 0), (28, .iconst 2, [], 2, 0), (29, .ireturn, [], 0, 0)], 30),
  (30, [(30, .aload_n 0, [], 0, 0), (31, .iload_n 3, [], 0, 0), (32, .invokevirtual 330, [], 0, 1), (35, .istore 4, [], 0, 0), (37, .iload 4, [], 0, 0), (39, .iconst (-1), [], (-1), 0), (40, .if_icmp .ne 5, [(45, 0)], 0, 0), (43, .iconst 1, [], 1, 0), (44, .ireturn, [], 0, 0)], 45),
  (45, [(45, .aload_n 0, [], 0, 0), (46, .iload 4, [], 0, 0), (48, .iload_n 2, [], 0, 0), (49, .invokevirtual 234, [], 0, 2), (52, .iconst 2, [], 2, 0), (53, .ireturn, [], 0, 0)], 54)]
def fdX9_stores : mFt := [(16, 12, 3, 0)]
def clX9_stores : mCt := [(244, 0, 1, 12, spX9_push), (330, 0, 1, 12, spX9_place), (234, 0, 2, 12, spX9_store)]
def spX9_stores : mSp := mSpOf shM fdX9_stores clX9_stores bsX9_stores 2 (some .int)
abbrev rmX9_stores : Room := { frames := 4, cells := 0, slots := 0, locals := 86 }
abbrev wkX9_stores : List Jvm.Cond := .code yX9_stores cX9_stores 5 (some .int) :: wM
set_option maxRecDepth 100000 in
set_option maxHeartbeats 4000000 in
theorem metX9_stores (l : Launch) (D : va_G) (ad : Nat → Nat) (tc : Nat → ClassId) : mMet l D vwCl ad tc shM yX9_stores wkX9_stores rmX9_stores spX9_stores :=
  mMet_of (own := RX9) (ret := (some .int)) (Fd := fdX9_stores) (Cl := clX9_stores) (Ks := []) (Fi := [(16, 0)]) (Ci := [(244, 0), (330, 0), (234, 0)]) (bs := bsX9_stores) rfl (by decide +kernel) rfl (by decide +kernel)
    (List.forall_mem_cons.mpr ⟨⟨RX9, TX9, 39, rfl, by decide, fun w h => mIn (inM_X9 w h), mIn (mAt (i := 3) (by decide +kernel)), fun h => absurd h (by decide)⟩, fun _ h => absurd h List.not_mem_nil⟩)
    (fun _ h => absurd h List.not_mem_nil)
    (List.forall_mem_cons.mpr ⟨Or.inl ⟨rfl, RX9, TX9, 39, yX9_push, cX9_push, 3, none, wkX9_push, _, rmX9_push, rfl, mGoodV goodM (mAt (i := 146) (by decide +kernel)) (mAt (i := 147) (by decide +kernel)) (mAt (i := 148) (by decide +kernel)) (mAt (i := 8) (by decide +kernel)) (mAt (i := 141) (by decide +kernel)), rfl, rfl, rfl, by decide +kernel, by decide, metX9_push l D ad tc⟩, List.forall_mem_cons.mpr ⟨Or.inl ⟨rfl, RX9, TX9, 39, yX9_place, cX9_place, 5, (some .int), wkX9_place, _, rmX9_place, rfl, mGoodV goodM (mAt (i := 197) (by decide +kernel)) (mAt (i := 198) (by decide +kernel)) (mAt (i := 199) (by decide +kernel)) (mAt (i := 8) (by decide +kernel)) (mAt (i := 189) (by decide +kernel)), rfl, rfl, rfl, by decide +kernel, by decide, metX9_place l D ad tc⟩, List.forall_mem_cons.mpr ⟨Or.inl ⟨rfl, RX9, TX9, 39, yX9_store, cX9_store, 3, none, wkX9_store, _, rmX9_store, rfl, mGoodV goodM (mAt (i := 123) (by decide +kernel)) (mAt (i := 124) (by decide +kernel)) (mAt (i := 125) (by decide +kernel)) (mAt (i := 8) (by decide +kernel)) (mAt (i := 100) (by decide +kernel)), rfl, rfl, rfl, by decide +kernel, by decide, metX9_store l D ad tc⟩, fun _ h => absurd h List.not_mem_nil⟩⟩⟩) rfl rfl (by decide +kernel) (by decide) (by decide)
-- FlashBoardModel.shifted
def bsX9_shifted : List mBl := [(0, [(0, .iload_n 1, [], 0, 0), (1, .bipush 15, [], 15, 0), (3, .iand, [], 0, 0), (4, .iconst 5, [], 5, 0), (5, .if_icmp .ne 11, [(16, 0)], 0, 0), (8, .iload_n 3, [], 0, 0), (9, .sipush 128, [], 128, 0), (12, .iand, [], 0, 0), (13, .goto 23, [(36, 0)], 0, 0)], 16),
  (16, [(16, .iload_n 1, [], 0, 0), (17, .bipush 15, [], 15, 0), (19, .iand, [], 0, 0), (20, .bipush 6, [], 6, 0), (22, .if_icmp .ne 7, [(29, 0)], 0, 0), (25, .iconst 0, [], 0, 0), (26, .goto 10, [(36, 0)], 0, 0)], 29),
  (29, [(29, .aload_n 0, [], 0, 0), (30, .invokevirtual 288, [], 0, 0), (33, .bipush 7, [], 7, 0), (35, .ishl, [], 0, 0)], 36),
  (36, [(36, .istore 4, [], 0, 0), (38, .iload_n 3, [], 0, 0), (39, .iconst 1, [], 1, 0), (40, .ishr, [], 0, 0), (41, .iload 4, [], 0, 0), (43, .ior, [], 0, 0), (44, .istore 5, [], 0, 0), (46, .aload_n 0, [], 0, 0), (47, .iconst 0, [], 0, 0), (48, .iload_n 3, [], 0, 0), (49, .iconst 1, [], 1, 0), (50, .iand, [], 0, 0), (51, .iconst 1, [], 1, 0), (52, .if_icmp .ne 7, [(59, 0)], 0, 0), (55, .iconst 1, [], 1, 0), (56, .goto 4, [(60, 0)], 0, 0)], 59),
  (59, [(59, .iconst 0, [], 0, 0)], 60),
  (60, [(60, .invokevirtual 172, [], 0, 1), (63, .aload_n 0, [], 0, 0), (64, .iconst 3, [], 3, 0), (65, .iload 5, [], 0, 0), (67, .sipush 128, [], 128, 0), (70, .if_icmp .lt 7, [(77, 0)], 0, 0), (73, .iconst 1, [], 1, 0), (74, .goto 4, [(78, 0)], 0, 0)], 77),
  (77, [(77, .iconst 0, [], 0, 0)], 78),
  (78, [(78, .aload_n 0, [], 0, 0), (79, .iconst 0, [], 0, 0), (80, .invokevirtual 163, [], 0, 2), (83, .if_icmp .eq 7, [(90, 0)], 0, 0), (86, .iconst 1, [], 1, 0), (87, .goto 4, [(91, 0)], 0, 0)], 90),
  (90, [(90, .iconst 0, [], 0, 0)], 91),
  (91, [(91, .invokevirtual 172, [], 0, 1), (94, .aload_n 0, [], 0, 0), (95, .iload 5, [], 0, 0), (97, .invokevirtual 253, [], 0, 3), (100, .aload_n 0, [], 0, 0), (101, .getfield 16, [], 0, 0), (104, .iload_n 2, [], 0, 0), (105, .iload 5, [], 0, 0), (107, .iastore, [], 0, 0), (108, .iconst 1, [], 1, 0), (109, .ireturn, [], 0, 0)], 110)]
def fdX9_shifted : mFt := [(16, 12, 3, 0)]
def clX9_shifted : mCt := [(288, 0, 0, 12, spX9_carry), (172, 0, 2, 12, spX9_setFlag), (163, 0, 1, 12, spX9_flag), (253, 0, 1, 12, spX9_zero)]
def spX9_shifted : mSp := mSpOf shM fdX9_shifted clX9_shifted bsX9_shifted 4 (some .int)
abbrev rmX9_shifted : Room := { frames := 2, cells := 0, slots := 0, locals := 43 }
abbrev wkX9_shifted : List Jvm.Cond := .code yX9_shifted cX9_shifted 6 (some .int) :: wM
set_option maxRecDepth 100000 in
set_option maxHeartbeats 4000000 in
theorem metX9_shifted (l : Launch) (D : va_G) (ad : Nat → Nat) (tc : Nat → ClassId) : mMet l D vwCl ad tc shM yX9_shifted wkX9_shifted rmX9_shifted spX9_shifted :=
  mMet_of (own := RX9) (ret := (some .int)) (Fd := fdX9_shifted) (Cl := clX9_shifted) (Ks := []) (Fi := [(16, 0)]) (Ci := [(288, 0), (172, 0), (163, 0), (253, 0)]) (bs := bsX9_shifted) rfl (by decide +kernel) rfl (by decide +kernel)
    (List.forall_mem_cons.mpr ⟨⟨RX9, TX9, 39, rfl, by decide, fun w h => mIn (inM_X9 w h), mIn (mAt (i := 3) (by decide +kernel)), fun h => absurd h (by decide)⟩, fun _ h => absurd h List.not_mem_nil⟩)
    (fun _ h => absurd h List.not_mem_nil)
    (List.forall_mem_cons.mpr ⟨Or.inl ⟨rfl, RX9, TX9, 39, yX9_carry, cX9_carry, 1, (some .int), wkX9_carry, _, rmX9_carry, rfl, mGoodV goodM (mAt (i := 175) (by decide +kernel)) (mAt (i := 176) (by decide +kernel)) (mAt (i := 177) (by decide +kernel)) (mAt (i := 8) (by decide +kernel)) (mAt (i := 80) (by decide +kernel)), rfl, rfl, rfl, by decide +kernel, by decide, metX9_carry l D ad tc⟩, List.forall_mem_cons.mpr ⟨Or.inl ⟨rfl, RX9, TX9, 39, yX9_setFlag, cX9_setFlag, 3, none, wkX9_setFlag, _, rmX9_setFlag, rfl, mGoodV goodM (mAt (i := 47) (by decide +kernel)) (mAt (i := 48) (by decide +kernel)) (mAt (i := 49) (by decide +kernel)) (mAt (i := 8) (by decide +kernel)) (mAt (i := 45) (by decide +kernel)), rfl, rfl, rfl, by decide +kernel, by decide, metX9_setFlag l D ad tc⟩, List.forall_mem_cons.mpr ⟨Or.inl ⟨rfl, RX9, TX9, 39, yX9_flag, cX9_flag, 2, (some .boolean), wkX9_flag, _, rmX9_flag, rfl, mGoodV goodM (mAt (i := 7) (by decide +kernel)) (mAt (i := 9) (by decide +kernel)) (mAt (i := 10) (by decide +kernel)) (mAt (i := 8) (by decide +kernel)) (mAt (i := 4) (by decide +kernel)), rfl, rfl, rfl, by decide +kernel, by decide, metX9_flag l D ad tc⟩, List.forall_mem_cons.mpr ⟨Or.inl ⟨rfl, RX9, TX9, 39, yX9_zero, cX9_zero, 2, none, wkX9_zero, _, rmX9_zero, rfl, mGoodV goodM (mAt (i := 53) (by decide +kernel)) (mAt (i := 54) (by decide +kernel)) (mAt (i := 55) (by decide +kernel)) (mAt (i := 8) (by decide +kernel)) (mAt (i := 46) (by decide +kernel)), rfl, rfl, rfl, by decide +kernel, by decide, metX9_zero l D ad tc⟩, fun _ h => absurd h List.not_mem_nil⟩⟩⟩⟩) rfl rfl (by decide +kernel) (by decide) (by decide)
