/** Term 4 at its edges: the WINDOW of 57, a BUFFER that is empty or full, pages, LOCKS, what is BUSY, BYTES OF FLASH. */
public final class EdgesOfFlashTest {
    private static final Checks C = new Checks();
    private static final int FREE = 0x700;

    public static void main(String[] args) {
        windowEnds();
        windowWithLongerInstructions();
        noWindow();
        bufferOfWhichWord();
        bufferFull();
        bufferEmptyAgain();
        writeOfAnEmptyBuffer();
        whichPage();
        lastOfApplicationFirstOfBoot();
        lockedPages();
        locksBecomeZero();
        busyTo8000();
        lastCycleOfBusy();
        interruptBehindBusy();
        cyclesMore();
        readAsFFFF();
        bitSixStays();
        bytesOfHighZ();
        fuseBytes();
        otherCommandsInAWindow();
        C.end();
    }

    private static String hex(int v) {
        return Integer.toHexString(v);
    }

    /** "a WINDOW of 4 cycles begins ...; at its end bits 4 .. 0 are 0." */
    private static void windowEnds() {
        for (int v = 1; v < 256; v += 2) {
            FlashBoard b = new Code().ldi(24, v).out(0x57, 24).nops(3).board(FREE);
            b.run(4);
            C.due("57 in the last cycle but one of " + hex(v), b.data(0x57), v & 0x9F);
            C.due("WINDOW", b.about(16), 1);
            b.step();
            C.due("57 at the end", b.data(0x57), v & 0x80);
            C.due("WINDOW", b.about(16), 0);
        }
    }

    private static void windowWithLongerInstructions() {
        // STS takes 2 of the 4 cycles; an instruction of 2 leaves none, one of 1 leaves one.
        FlashBoard b = new Code().ldi(24, 1).sts(0x57, 24).w(0x95E8).board(FREE);
        b.run(2);
        C.due("behind STS", b.about(16), 2);
        b.step();
        C.due("a word", b.about(8), 1);
        b = new Code().ldi(24, 1).sts(0x57, 24).nops(1).w(0x95E8).board(FREE);
        b.run(4);
        C.due("in the last cycle", b.about(8), 1);
        b = new Code().ldi(24, 1).sts(0x57, 24).w(0xC000, 0x95E8).board(FREE);
        b.run(4);
        C.due("behind the last cycle", b.about(8), 0);
        b = new Code().ldi(24, 1).out(0x57, 24).w(0x940C, FREE + 5, 0, 0x95E8).board(FREE);
        b.run(4);
        C.due("behind JMP's three", b.about(8), 0);
        C.due("57", b.data(0x57), 0);
        // An ENTRY's 4 cycles end it.
        b = new Code().set(0xC1, 0x20).ldi(24, 1).out(0x57, 24).nops(1).board(FREE);
        b.run(4);
        b.put(0x5F, 0x80);
        C.due("an ENTRY", b.step(), 4);
        C.due("the WINDOW is over", b.about(16), 0);
    }

    /** "(else there is none)"; "or there is no WINDOW". */
    private static void noWindow() {
        FlashBoard b = new Code().ldi(24, 1).ldi(25, 0).out(0x57, 24).out(0x57, 25).w(0x95E8).board(FREE);
        b.run(5);
        C.due("57", b.data(0x57), 0);
        C.due("no word", b.about(8), 0);
        b = new Code().w(0x95E8).board(FREE);
        C.due("at first: a cycle", b.step(), 1);
        C.due("no word", b.about(8), 0);
        // One STORE IN FLASH to a WINDOW: "Else the WINDOW is over".
        b = new Code().z(0).ldi(24, 1).out(0x57, 24).w(0x95E8).ldi(30, 2).w(0x95E8).board(FREE);
        b.run(7);
        C.due("one word, not two", b.about(8), 1);
    }

    /** "word (Z / 2) MOD 32 of the BUFFER is R1 R0": which it was is told by a WRITE. */
    private static void bufferOfWhichWord() {
        int[][] rows = {{0, 0}, {1, 0}, {2, 1}, {0x3E, 31}, {0x3F, 31}, {0x40, 0}, {0x43, 1}, {0x1000, 0}, {0xFFFE, 31}, {0xFFFF, 31}};
        for (int[] row : rows) {
            FlashBoard b = new Code().spm(1).z(0x80).spm(5).board(FREE);
            Code.pair(b, 30, row[0]);
            b.put(0, 0x5A);
            b.put(1, 0xC3);
            b.run(8);
            for (int i = 0; i < 32; i++) C.due("Z " + hex(row[0]) + ", word " + i, b.word(0x40 + i), i == row[1] ? 0xC35A : 0xFFFF);
        }
    }

    /** 32 words by a loop; then once more, with other words, which the full BUFFER does not take. */
    private static Code filling() {
        // R0 is the count, R1 its complement; Z goes on by 2 to 40.
        return new Code().z(0).w(0x2E0E, 0x2E1E, 0x9410).spm(1).w(0x9632, 0x34E0, 0xF7B9);
    }

    private static void bufferFull() {
        Code code = filling();
        FlashBoard b = code.ldi(30, 0).w(0x2400, 0x2411).spm(1).ldi(30, 0x3E).spm(1).ldi(30, 0xC0).spm(5).w(0x9588).board(FREE);
        b.run(2 + 32 * 9);
        C.due("32 words", b.about(8), 32);
        b.run(6);
        C.due("no more than 32", b.about(8), 32);
        b.run(4);
        C.due("no more than 32", b.about(8), 32);
        b.run(4);
        C.due("a WRITE empties it", b.about(8), 0);
        for (int i = 0; i < 32; i++) C.due("word " + i, b.word(0x60 + i), 2 * i | (2 * i ^ 0xFF) << 8);
        C.due("the page ahead", b.word(0x5F), 0xFFFF);
        C.due("the page behind", b.word(0x80), 0xFFFF);
    }

    /** "if it has none since it was empty": empty by 1000, by a WRITE; not by an ERASE, nor by a page that is locked. */
    private static void bufferEmptyAgain() {
        int[] commands = {0x11, 0x03, 0x05, 0x09, 0x1F};
        int[] left = {0, 1, 0, 1, 1};
        for (int i = 0; i < commands.length; i++) {
            for (int locks = 0; locks < 16; locks += 15) {
                FlashBoard b = new Code().z(0xFC0).spm(1).spm(commands[i]).nops(1).spm(1).board(FREE);
                b.fuses(0x10 | locks);
                b.put(0, 0xFF);
                b.run(8);
                int want = commands[i] == 5 && locks == 0 ? 1 : left[i];
                C.due("words behind " + hex(commands[i]) + ", LOCKS " + locks, b.about(8), want);
                b.run(4);
                C.due("one again", b.about(8), 1);
            }
        }
    }

    private static void writeOfAnEmptyBuffer() {
        FlashBoard b = new Code().z(0x40).spm(5).board(FREE);
        b.burn(0x20, 0x12345678, 0, 0, 0, 0);
        b.run(5);
        C.due("nothing changes", b.word(0x20), 0x1234);
        C.due("but it is BUSY", b.about(7), 7999);
        C.due("57", b.data(0x57), 0x45);
        b = new Code().z(0xFC0).spm(5).board(FREE);
        b.burn(0x7E0, 0x12345678, 0, 0, 0, 0);
        b.run(4);
        C.due("in the BOOT SECTION", b.step(), 8001);
        C.due("nothing changes", b.word(0x7E0), 0x1234);
    }

    /** "an ERASE ... of the PAGE (Z / 64) MOD 64". */
    private static void whichPage() {
        int[][] rows = {{0, 0}, {0x3F, 0}, {0x40, 1}, {0x7F, 1}, {0x0BBF, 46}, {0x0BC0, 47}, {0x0BFF, 47}, {0x0F80, 62}, {0x0FBF, 62},
            {0x0FC0, 63}, {0x0FFF, 63}, {0x1000, 0}, {0x103F, 0}, {0x1040, 1}, {0xFFFF, 63}, {0xF000, 0}, {0x8BC0, 47}};
        for (int[] row : rows) {
            FlashBoard b = new Code().spm(3).board(FREE);
            Code.pair(b, 30, row[0]);
            int first = row[1] * 32;
            if (first > 0) b.burn(first - 1, 0, 0, 0, 0, 0);
            for (int i = 0; i < 40; i += 10) if (first + i < 0x800) b.burn(first + i, 0, 0, 0, 0, 0);
            b.run(2);
            boolean boot = row[1] >= 48;
            C.due("ERASE with Z " + hex(row[0]), b.step(), boot ? 8001 : 1);
            C.due("BUSY", b.about(7), boot ? 0 : 7999);
            C.due("57", b.data(0x57), boot ? 0 : 0x43);
            for (int i = 0; i < 32; i++) C.due("its word " + i, b.word(first + i), 0xFFFF);
            if (first > 0) C.due("the word ahead", b.word(first - 1), 0);
            if (first + 32 < 0x800) C.due("the word behind", b.word(first + 32), 0);
        }
    }

    /** Page 47 ends at 5FF, page 48 begins at 600: an ERASE and a WRITE of each. */
    private static void lastOfApplicationFirstOfBoot() {
        for (int command = 3; command <= 5; command += 2) {
            for (int page = 47; page <= 48; page++) {
                FlashBoard b = new Code().spm(1).spm(command).board(FREE);
                Code.pair(b, 30, page * 64 + 62);
                b.burn(page * 32 + 31, 0x0FF00000, 0, 0, 0, 0);
                b.put(0, 0xAA);
                b.put(1, 0xAA);
                b.run(5);
                boolean boot = page == 48;
                C.due("page " + page, b.step(), boot ? 8001 : 1);
                C.due("its last word", b.word(page * 32 + 31), command == 3 ? 0xFFFF : 0x0AA0);
                C.due("the word behind", b.word(page * 32 + 32), 0);
                C.due("BUSY", b.about(7), boot ? 0 : 7999);
                C.due("57", b.data(0x57), boot ? 0 : 0x40 | command);
                C.due("BUFFER", b.about(8), command == 3 ? 1 : 0);
            }
        }
    }

    /** "with LOCKS' bit 0 being 0, of the BOOT SECTION with bit 2 being 0, nothing is done, and bits 4 .. 0 are 0". */
    private static void lockedPages() {
        for (int locks = 0; locks < 16; locks++) {
            for (int command = 3; command <= 5; command += 2) {
                for (int page = 47; page <= 48; page++) {
                    FlashBoard b = new Code().spm(1).spm(command | 0x80).board(FREE);
                    Code.pair(b, 30, page * 64);
                    b.burn(page * 32, 0x0F0F1234, 0, 0, 0, 0);
                    b.fuses(0x10 | locks);
                    b.put(0, 0x3C);
                    b.put(1, 0x3C);
                    b.run(5);
                    boolean boot = page == 48;
                    boolean open = (locks & (boot ? 4 : 1)) != 0;
                    String name = "page " + page + ", LOCKS " + locks + ", command " + command;
                    C.due(name + ": cycles", b.step(), open && boot ? 8001 : 1);
                    C.due(name + ": a word", b.word(page * 32), !open ? 0x0F0F : command == 3 ? 0xFFFF : 0x0C0C);
                    C.due(name + ": BUFFER", b.about(8), open && command == 5 ? 0 : 1);
                    C.due(name + ": BUSY", b.about(7), open && !boot ? 7999 : 0);
                    C.due(name + ": 57", b.data(0x57), open && !boot ? 0xC0 | command : 0x80);
                    C.due(name + ": WINDOW", b.about(16), 0);
                }
            }
        }
    }

    /** "bits of LOCKS 0 .. 3 become 0, for which bits 2 .. 5 of R0 are". */
    private static void locksBecomeZero() {
        for (int r0 = 0; r0 < 256; r0++) {
            FlashBoard b = new Code().spm(9).board(FREE);
            b.put(0, r0);
            b.put(1, 0xFF ^ r0);
            b.run(3);
            C.due("of 15, R0 " + hex(r0), b.fuses(31), 0x10 | r0 >> 2 & 15);
            C.due("a cycle each", b.about(3), 3);
            b.fuses(0x0A);
            b.start(FREE);
            b.run(3);
            C.due("of 10, FUSE 0, R0 " + hex(r0), b.fuses(31), 0x0A & r0 >> 2);
        }
        // 0100 in the APPLICATION, or without a WINDOW, does nothing.
        FlashBoard b = new Code().spm(9).board(0x100);
        b.run(3);
        C.due("in the APPLICATION", b.fuses(31), 31);
        b = new Code().spm(8).board(FREE);
        b.run(3);
        C.due("without a WINDOW", b.fuses(31), 31);
    }

    private static FlashBoard erasing(int command) {
        FlashBoard b = new Code().z(0x40).spm(command).stay().board(FREE);
        b.run(5);
        return b;
    }

    /** "bit 6 is 1, it is BUSY for 8000 cycles, and bits 4 .. 0 are 0 at their end". */
    private static void busyTo8000() {
        for (int v : new int[] {0x03, 0x83, 0x05, 0x85}) {
            FlashBoard b = erasing(v);
            C.due("BUSY", b.about(7), 7999);
            C.due("the STORE's cycle", b.about(3), 5);
            C.due("57", b.data(0x57), v | 0x40);
            C.due("in its last cycle but one", b.pass(7997), 7998);
            C.due("BUSY", b.about(7), 1);
            C.due("57", b.data(0x57), v | 0x40);
            b.step();
            C.due("BUSY", b.about(7), 0);
            C.due("57", b.data(0x57), v & 0x80 | 0x40);
        }
    }

    /** "a STORE of a byte while it is BUSY makes bit 7 that of the byte". */
    private static void lastCycleOfBusy() {
        for (int v : new int[] {0x00, 0x80, 0x9F, 0x1F, 0x61, 0xE3}) {
            FlashBoard b = erasing(0x03);
            new Code().out(0x57, 25).w(0x95E8).burn(b, FREE + 0x20);
            b.put(25, v);
            b.start(FREE + 0x20);
            b.step();
            C.due("STORED while BUSY " + hex(v), b.data(0x57), v & 0x80 | 0x43);
            C.due("no WINDOW", b.about(16), 0);
            C.due("nothing by the STORE IN FLASH", b.step(), 1);
            C.due("BUSY goes on", b.about(7), 7997);
            b = erasing(0x03);
            new Code().nops(1).out(0x57, 25).w(0x95E8).burn(b, FREE + 0x20);
            b.put(25, v);
            b.pass(7996);
            b.start(FREE + 0x20);
            while (b.about(7) > 1) b.step();
            b.start(FREE + 0x21);
            b.step();
            C.due("STORED in the last cycle of BUSY " + hex(v), b.data(0x57), v & 0x80 | 0x40);
            C.due("no WINDOW", b.about(16), 0);
            b.start(FREE + 0x21);
            b.step();
            C.due("STORED behind it", b.data(0x57), v & 0x9F | 0x40);
            C.due("a WINDOW with bit 0", b.about(16), (v & 1) * 3);
        }
    }

    /** 8: "bit 7 of 57 1, bit 0 of it 0": at the end of BUSY, not ahead. */
    private static void interruptBehindBusy() {
        FlashBoard b = erasing(0x83);
        b.put(0x5F, 0x80);
        Code.pair(b, 0x5D, 0x4FF);
        b.pass(7998);
        C.due("BUSY yet", b.about(21), 0);
        C.due("no ENTRY", b.about(5), 0);
        b.step();
        C.due("now it WAITS", b.about(21), 8);
        b.step();
        C.due("PC", b.about(0), 0x10);
    }

    /** "one of the BOOT SECTION: bits 4 .. 0 are 0, the instruction takes 8000 cycles more": all goes on in these. */
    private static void cyclesMore() {
        Code code = new Code().w(0x9AFA, 0x9AF9).set(0xC1, 8).sts(0xC6, 1).set(0x47, 0xFF).set(0x45, 5).z(0xC00);
        FlashBoard b = code.spm(3).board(FREE);
        b.run(11);
        C.due("the EEPROM writes", b.about(15) > 3000 ? 1 : 0, 1);
        int cycles = b.about(3);
        b.run(2);
        C.due("8001 cycles", b.step(), 8001);
        C.due("cycles", b.about(3), cycles + 8003);
        C.due("the EEPROM has written", b.about(15), 0);
        C.due("the byte is sent", b.sent(), 1);
        C.due("PRESCALER", b.about(10), (cycles + 8003) % 1024);
        C.due("ticks", b.data(0x46), (cycles + 8003) / 1024);
        C.due("57", b.data(0x57), 0);
    }

    /** "With bit 6 of 57 all words of the APPLICATION are read as FFFF". */
    private static void readAsFFFF() {
        FlashBoard b = erasing(0x03);
        new Code().ldi(16, 1).burn(b, 0x5FF);
        new Code().ldi(17, 2).burn(b, 0x600);
        b.start(0x5FF);
        b.run(2);
        C.due("the instruction at 5FF", b.data(16), 0);
        C.due("the instruction at 600", b.data(17), 2);
        C.due("word tells it as it is", b.word(0x5FF), 0xE001);
        // NEXT at 0, of a JMP, an LDS and of what is left out at 7FF.
        new Code().w(0x0123).burn(b, 0);
        new Code().w(0x940C).burn(b, 0x7FF);
        b.start(0x7FF);
        b.step();
        C.due("NEXT at 0", b.about(0), 0x7FF);
        new Code().w(0x9100).burn(b, 0x7FF);
        b.put(0x123, 0x45);
        b.put(16, 9);
        b.start(0x7FF);
        b.step();
        C.due("NEXT FFFF is no address", b.data(16), 0);
        new Code().w(0x9100).burn(b, 0);
        new Code().w(0x1000).burn(b, 0x7FF);
        b.start(0x7FF);
        C.due("what is left out is FFFF, without a NEXT", b.step(), 2);
        C.due("PC", b.about(0), 1);
        int[][] bytes = {{0x0000, 0xFF}, {0x0BFE, 0xFF}, {0x0BFF, 0xFF}, {0x0C00, 0x12}, {0x0C01, 0xE0}, {0x1BFF, 0xFF}, {0x1C00, 0x12}};
        new Code().w(0x9144).burn(b, 0x7FF);
        for (int[] row : bytes) {
            b.start(0x7FF);
            Code.pair(b, 30, row[0]);
            b.step();
            C.due("BYTE at " + hex(row[0]), b.data(20), row[1]);
        }
    }

    /** Bit 6 is 0 by 1000 alone (or a RESET), not at the end of BUSY, and by no STORE of 57. */
    private static void bitSixStays() {
        FlashBoard b = erasing(0x03);
        b.pass(8000);
        C.due("behind BUSY", b.data(0x57), 0x40);
        new Code().ldi(24, 0).out(0x57, 24).spm(1).spm(9).spm(0x1F).spm(0x10).spm(0x11).burn(b, FREE + 0x20);
        b.start(FREE + 0x20);
        b.run(2);
        C.due("behind a STORE of 0", b.data(0x57), 0x40);
        b.put(0, 0xFF);
        for (int i = 0; i < 3; i++) {
            b.run(3);
            C.due("behind another command", b.data(0x57), 0x40);
        }
        b.run(3);
        C.due("behind 1000 without a WINDOW", b.data(0x57), 0x50);
        b.run(3);
        C.due("behind 1000", b.data(0x57), 0);
        C.due("BUFFER", b.about(8), 0);
        // An ERASE, a WRITE, an ERASE, without 1000 between them.
        b = erasing(0x03);
        for (int command : new int[] {5, 3}) {
            b.pass(8000);
            new Code().spm(command).w(0x9588).burn(b, FREE + 0x20);
            b.start(FREE + 0x20);
            b.run(3);
            C.due("bit 6 again", b.data(0x57), 0x40 | command);
            C.due("BUSY", b.about(7), 7999);
        }
    }

    /** "of the word (Z / 2) MOD 2048 the low byte if Z is even, else the high one". */
    private static void bytesOfHighZ() {
        int[][] rows = {{0, 0xA2}, {1, 0xA1}, {2, 0xA4}, {0x0FFE, 0xB2}, {0x0FFF, 0xB1}, {0x1000, 0xA2}, {0x1001, 0xA1}, {0xFFFE, 0xB2},
            {0xFFFF, 0xB1}, {0xF003, 0xA3}};
        for (int w : new int[] {0x9144, 0x9145, 0x95C8}) {
            for (int[] row : rows) {
                FlashBoard b = new Code().w(w).board(FREE);
                b.burn(0, 0xA1A2A3A4, 0, 0, 0, 0);
                b.burn(0x7FF, 0xB1B20000, 0, 0, 0, 0);
                Code.pair(b, 30, row[0]);
                C.due(hex(w) + ": cycles", b.step(), 3);
                C.due(hex(w) + " at Z " + hex(row[0]), b.data(w == 0x95C8 ? 0 : 20), row[1]);
                C.due("Z behind it", b.data(31) << 8 | b.data(30), row[0] + (w == 0x9145 ? 1 : 0) & 0xFFFF);
            }
        }
    }

    /** "in a WINDOW with bits 4 .. 1 being 0100: LOCKS + F0 if Z is 1, FUSE + FE if Z is 0, else FF". */
    private static void fuseBytes() {
        int[][] rows = {{0, 0x1A, 0xFF}, {0, 0x0A, 0xFE}, {1, 0x1A, 0xFA}, {1, 0x00, 0xF0}, {1, 0x1F, 0xFF}, {2, 0x00, 0xFF}, {3, 0x00, 0xFF},
            {0x0100, 0, 0xFF}, {0x1000, 0, 0xFF}, {0x1001, 0, 0xFF}, {0x8000, 0, 0xFF}, {0xFFFF, 0, 0xFF}};
        for (int at : new int[] {0x100, FREE}) {
            for (int w : new int[] {0x9144, 0x9145, 0x95C8}) {
                for (int[] row : rows) {
                    FlashBoard b = new Code().ldi(24, 9).out(0x57, 24).w(w).board(at);
                    b.burn(0, 0x11111111, 0x11111111, 0, 0, 0);
                    b.burn(0x80, 0x11111111, 0, 0, 0, 0);
                    b.burn(0x7FF, 0x11110000, 0, 0, 0, 0);
                    b.fuses(row[1]);
                    Code.pair(b, 30, row[0]);
                    b.run(3);
                    C.due(hex(w) + " of Z " + hex(row[0]), b.data(w == 0x95C8 ? 0 : 20), row[2]);
                    C.due("the WINDOW is over", b.about(16), 0);
                    C.due("bits 4 .. 0 are 0", b.data(0x57), 0);
                }
            }
        }
        // In the WINDOW's last cycle, and behind it.
        for (int nops = 0; nops < 5; nops++) {
            FlashBoard b = new Code().ldi(24, 9).out(0x57, 24).nops(nops).w(0x9144).board(FREE);
            b.burn(0, 0x11111111, 0, 0, 0, 0);
            b.fuses(0x13);
            Code.pair(b, 30, 1);
            b.run(3 + nops);
            C.due("behind " + nops, b.data(20), nops < 3 ? 0xF3 : 0x11);
        }
    }

    /** In a WINDOW with other bits a BYTE OF FLASH is one of a word, and the WINDOW goes on. */
    private static void otherCommandsInAWindow() {
        for (int v = 1; v < 0x20; v += 2) {
            if (v == 9) continue;
            FlashBoard b = new Code().ldi(24, v).sts(0x57, 24).nops(0).w(0x9144).board(FREE);
            b.burn(0, 0x22222222, 0, 0, 0, 0);
            b.run(2);
            C.due("57", b.data(0x57), v);
            b.step();
            C.due("a word's byte with " + hex(v), b.data(20), 0x22);
        }
    }
}
