/** Terms 1 and 2 at their edges: addresses, SP and PC that turn over. Each check names the words that it is about. */
public final class EdgesOfMemoryTest {
    private static final Checks C = new Checks();
    private static final int[] EDGES = {0x000, 0x00F, 0x020, 0x022, 0x0FF, 0x100, 0x4FF, 0x500, 0x501, 0x5FF, 0x7FF, 0x800, 0x900,
        0x1000, 0x8000, 0x8100, 0xFFFF};
    /** Of a LOAD to R5: its word, where its address stands (0: in NEXT), what that is more than the address, and behind it. */
    private static final int[][] LOADS = {{0x9050, 0, 0, 0}, {0x8050, 30, 0, 0}, {0x9051, 30, 0, 1}, {0x9052, 30, 1, 0},
        {0x8058, 28, 0, 0}, {0x9059, 28, 0, 1}, {0x905A, 28, 1, 0}, {0x905C, 26, 0, 0}, {0x905D, 26, 0, 1}, {0x905E, 26, 1, 0},
        {0xAC5F, 28, -0x3F, -0x3F}, {0xAC57, 30, -0x3F, -0x3F}, {0xA050, 30, -0x20, -0x20}, {0x8059, 28, -1, -1},
        {0x905F, 0x5D, -1, 0}};

    public static void main(String[] args) {
        loadsBeyond();
        storesBeyond();
        ports();
        notTold();
        pushTurnsOver();
        popTurnsOver();
        pcOnTheStack();
        pushIntoStackPointer();
        popOutOfStackPointer();
        pcTurnsOver();
        nextTurnsOver();
        skipTurnsOver();
        jumpsTurnOver();
        elevenBits();
        pagesOfApplication();
        C.end();
    }

    private static String hex(int v) {
        return Integer.toHexString(v);
    }

    /** One word and its NEXT at 40, R0, R15 and both ends of RAM filled. */
    private static FlashBoard filled(int w, int next) {
        FlashBoard b = new Code().w(w, next).board(0x40);
        b.put(0, 0xA0);
        b.put(0x0F, 0xA2);
        b.put(0x100, 0xB1);
        b.put(0x4FF, 0xB2);
        return b;
    }

    private static int valueAt(int address) {
        return address == 0 ? 0xA0 : address == 0x0F ? 0xA2 : address == 0x100 ? 0xB1 : address == 0x4FF ? 0xB2 : 0;
    }

    private static void placeAt(FlashBoard b, int low, int v) {
        if (low != 0) Code.pair(b, low, v);
    }

    private static int pairOf(FlashBoard b, int low) {
        return b.data(low + 1) << 8 | b.data(low);
    }

    /** "Of other addresses, and of REGISTERS not told here, 0 is LOADED". */
    private static void loadsBeyond() {
        for (int[] form : LOADS) {
            for (int a : EDGES) {
                String name = hex(form[0]) + " LOADS " + hex(a);
                FlashBoard b = filled(form[0], a);
                b.put(5, 0x77);
                placeAt(b, form[1], a + form[2]);
                C.due(name + ": cycles", b.step(), 2);
                C.due(name, b.data(5), valueAt(a));
                if (form[1] != 0) C.due(name + ": the pair behind it", pairOf(b, form[1]), a + form[3] & 0xFFFF);
                C.due(name + ": PC", b.about(0), form[1] == 0 ? 0x42 : 0x41);
            }
        }
    }

    /** "and what is STORED is lost". */
    private static void storesBeyond() {
        for (int[] form : LOADS) {
            boolean pushes = form[1] == 0x5D;
            for (int a : EDGES) {
                String name = hex(form[0] | 0x200) + " STORES " + hex(a);
                FlashBoard b = filled(form[0] | 0x200, a);
                b.put(5, 0x5C);
                placeAt(b, form[1], a + (pushes ? 0 : form[2]));
                C.due(name + ": cycles", b.step(), 2);
                boolean holds = a < 0x20 || a >= 0x100 && a < 0x500;
                if (a < 0x500) C.due(name, b.data(a), holds ? 0x5C : 0);
                for (int other : new int[] {0, 0x0F, 0x100, 0x4FF}) {
                    if (other != a) C.due(name + " and not " + hex(other), b.data(other), valueAt(other));
                }
                for (int turned : new int[] {a & 0x3FF, a & 0x7FF, a & 0xFF, a % 0x500, a - 0x400}) {
                    if (turned == a || turned < 0 || turned > 0x4FF) continue;
                    if (turned < 0x20 || turned >= 0x100) C.due(name + " and not " + hex(turned), b.data(turned), valueAt(turned));
                }
                if (form[1] != 0) {
                    C.due(name + ": the pair behind it", pairOf(b, form[1]), a + (pushes ? -1 : form[3]) & 0xFFFF);
                }
            }
        }
    }

    /** "of which those up to 05F are ports 00 .. 3F, too". */
    private static void ports() {
        for (int address : new int[] {0x24, 0x25, 0x3E, 0x44, 0x45, 0x46, 0x47, 0x4A, 0x4B, 0x5D, 0x5E, 0x5F}) {
            FlashBoard b = new Code().out(address, 20).in(21, address).lds(22, address).board(0x40);
            b.put(20, 0xA9);
            C.due("OUT " + hex(address), b.step(), 1);
            C.due("holds all its bits", b.data(address), 0xA9);
            C.due("IN " + hex(address), b.step(), 1);
            b.step();
            C.due("IN", b.data(21), 0xA9);
            C.due("LDS", b.data(22), 0xA9);
        }
        // Port 00 is 20, port 3F is 5F; 60 is no port.
        FlashBoard b = new Code().w(0xB940, 0xB150, 0xBF4F, 0xB75F).board(0x40);
        b.put(20, 0xC3);
        b.put(21, 0x99);
        b.run(2);
        C.due("port 00 is LOADED as 0", b.data(21), 0);
        C.due("and what is STORED there is lost", b.data(0x20), 0);
        C.due("R0 is no port", b.data(0), 0);
        b.run(1);
        C.due("port 3F is SREG", b.data(0x5F), 0xC3);
        C.due("and not 60", b.data(0x60), 0);
        b.run(1);
        C.due("port 3F is LOADED", b.data(21), 0xC3);
    }

    /** "REGISTERS not told here": by the SBI and CBI of each port that is none, too. */
    private static void notTold() {
        int[] none = {0x20, 0x21, 0x22, 0x26, 0x2F, 0x30, 0x34, 0x36, 0x3D};
        for (int address : none) {
            int port = address - 0x20;
            FlashBoard b = new Code().w(0x9A00 | port << 3 | 7, 0x9B00 | port << 3 | 7, 0x9800 | port << 3).board(0x40);
            C.due("SBI of " + hex(address), b.step(), 2);
            C.due("is lost", b.data(address), 0);
            C.due("SBIS of it", b.step(), 1);
            C.due("CBI of it", b.step(), 2);
        }
        for (int address : new int[] {0x61, 0x6D, 0x6F, 0xBF, 0xC3, 0xC7, 0xFF}) {
            FlashBoard b = new Code().sts(address, 20).lds(21, address).board(0x40);
            b.put(20, 0xFF);
            b.put(21, 0x99);
            b.run(2);
            C.due("LDS of " + hex(address), b.data(21), 0);
        }
    }

    private static FlashBoard atStack(int w, int sp) {
        FlashBoard b = new Code().w(w).board(0x40);
        Code.pair(b, 0x5D, sp);
        b.put(5, 0x5C);
        return b;
    }

    /** "PUSH a byte: it is STORED at SP, then SP is what it was ahead of that, less 1." */
    private static void pushTurnsOver() {
        int[][] rows = {{0x0000, 0xFFFF}, {0xFFFF, 0xFFFE}, {0x0500, 0x04FF}, {0x0100, 0x00FF}, {0x0200, 0x01FF}, {0x8000, 0x7FFF}};
        for (int[] row : rows) {
            FlashBoard b = atStack(0x925F, row[0]);
            C.due("PUSH at SP " + hex(row[0]), b.step(), 2);
            C.due("SP behind it", b.about(1), row[1]);
            C.due("SPL", b.data(0x5D), row[1] & 255);
            C.due("SPH", b.data(0x5E), row[1] >> 8);
            if (row[0] < 0x500) C.due("the byte", b.data(row[0]), 0x5C);
            C.due("the end of RAM", b.data(0x4FF), 0);
        }
    }

    /** "POP: SP is 1 more, the byte there is LOADED." */
    private static void popTurnsOver() {
        int[][] rows = {{0xFFFF, 0, 0xA7}, {0xFFFE, 0xFFFF, 0}, {0x04FF, 0x0500, 0}, {0x04FE, 0x04FF, 0xB2}, {0x00FF, 0x0100, 0xB1},
            {0x01FF, 0x0200, 0}, {0x7FFF, 0x8000, 0}};
        for (int[] row : rows) {
            FlashBoard b = atStack(0x905F, row[0]);
            b.put(0, 0xA7);
            b.put(0x4FF, 0xB2);
            b.put(0x100, 0xB1);
            C.due("POP at SP " + hex(row[0]), b.step(), 2);
            C.due("SP behind it", b.about(1), row[1]);
            C.due("the byte", b.data(5), row[2]);
        }
    }

    /** "PC is PUSHED low byte first, POPPED high byte first (its 11 lowest bits)." */
    private static void pcOnTheStack() {
        // RCALL at 7A5, behind which stands 7A6.
        int[][] calls = {{0x0000, 0xFFFE, 0, 0xA6}, {0x0001, 0xFFFF, 1, 0xA6}, {0x0001, 0xFFFF, 0, 7}, {0x0500, 0x04FE, 0x4FF, 7},
            {0x04FF, 0x04FD, 0x4FF, 0xA6}, {0x04FF, 0x04FD, 0x4FE, 7}, {0xFFFF, 0xFFFD, 0x4FF, 0}, {0x0100, 0x00FE, 0x100, 0xA6}};
        for (int[] row : calls) {
            FlashBoard b = new Code().w(0xD000).board(0x7A5);
            Code.pair(b, 0x5D, row[0]);
            C.due("RCALL at SP " + hex(row[0]), b.step(), 3);
            C.due("SP behind it", b.about(1), row[1]);
            C.due("the byte at " + hex(row[2]), b.data(row[2]), row[3]);
        }
        for (int w : new int[] {0x9508, 0x9518}) {
            int[][] returns = {{0xFFFF, 1, 0x1A5}, {0xFFFE, 0, 0x0F9}, {0x04FD, 0x4FF, 0x36B}, {0x04FE, 0x500, 0x300}, {0xFFFD, 0xFFFF, 0},
                {0x0500, 0x502, 0}};
            for (int[] row : returns) {
                FlashBoard b = atStack(w, row[0]);
                b.put(0, 0xF9);
                b.put(1, 0xA5);
                b.put(0x4FE, 0xFB);
                b.put(0x4FF, row[0] == 0x4FE ? 0x03 : 0x6B);
                C.due(hex(w) + " at SP " + hex(row[0]), b.step(), 4);
                C.due("SP behind it", b.about(1), row[1]);
                C.due("PC", b.about(0), row[2]);
            }
        }
        FlashBoard b = atStack(0x9508, 0x200);
        b.put(0x201, 0xFF);
        b.put(0x202, 0xFF);
        b.step();
        C.due("its 11 lowest bits", b.about(0), 0x7FF);
    }

    /** "then SP is what it was ahead of that, less 1": whatever is STORED in SP. */
    private static void pushIntoStackPointer() {
        for (int sp : new int[] {0x5D, 0x5E}) {
            FlashBoard b = atStack(0x925F, sp);
            b.step();
            C.due("PUSH into " + hex(sp), b.about(1), sp - 1);
        }
        FlashBoard b = atStack(0xD000, 0x5E);
        b.step();
        C.due("two PUSHES into SP", b.about(1), 0x5C);
        b = atStack(0xD000, 0x5F);
        b.step();
        C.due("one into SREG, one into SPH", b.about(1), 0x5D);
        C.due("SREG has the low byte", b.data(0x5F), 0x41);
    }

    /** "SP is 1 more, the byte there is LOADED": SP's own bytes as they are then. */
    private static void popOutOfStackPointer() {
        FlashBoard b = atStack(0x905F, 0x5C);
        b.step();
        C.due("POP of SPL", b.data(5), 0x5D);
        b = atStack(0x905F, 0x5D);
        b.step();
        C.due("POP of SPH", b.data(5), 0);
        b = atStack(0x9508, 0x5C);
        b.step();
        C.due("RET out of SPL and SPH", b.about(0), 0x500);
        C.due("SP", b.about(1), 0x5E);
        b = atStack(0x9508, 0x5B);
        b.step();
        C.due("RET out of 5C and SPL", b.about(0), 0x05D);
    }

    /** "PC is an address of FLASH (11 bits)." */
    private static void pcTurnsOver() {
        int[] ofOneWord = {0x0000, 0x0F01, 0x2F01, 0x3001, 0x8058, 0x9057, 0x925F, 0x9503, 0x9631, 0x9A00, 0xB150, 0xE001, 0xF800,
            0xFFFF, 0x95A8, 0x95C8, 0x9054, 0x9F01};
        for (int w : ofOneWord) {
            FlashBoard b = new Code().w(w).board(0x7FF);
            b.step();
            C.due("PC behind " + hex(w) + " at 7FF", b.about(0), 0);
        }
        FlashBoard b = new Code().nops(2).board(0x7FE);
        new Code().ldi(16, 0x5A).burn(b, 0);
        b.run(3);
        C.due("the instruction at 0 follows", b.data(16), 0x5A);
        C.due("PC", b.about(0), 1);
    }

    /** "NEXT is the word behind; PC goes beyond it." */
    private static void nextTurnsOver() {
        for (int at = 0x7FD; at <= 0x7FF; at++) {
            FlashBoard b = new Code().w(0x9250).board(at);
            new Code().w(0x0123).burn(b, at + 1 & 0x7FF);
            b.put(5, 0x66);
            b.step();
            C.due("STS at " + hex(at), b.data(0x123), 0x66);
            C.due("PC beyond NEXT", b.about(0), at + 2 & 0x7FF);
            b = new Code().w(0x940C).board(at);
            new Code().w(0x0321).burn(b, at + 1 & 0x7FF);
            b.step();
            C.due("JMP at " + hex(at), b.about(0), 0x321);
            b = new Code().w(0x940E).board(at);
            new Code().w(0x0321).burn(b, at + 1 & 0x7FF);
            Code.pair(b, 0x5D, 0x200);
            b.step();
            C.due("CALL at " + hex(at), b.about(0), 0x321);
            C.due("PUSHED, behind NEXT", b.data(0x1FF) << 8 | b.data(0x200), at + 2 & 0x7FF);
        }
    }

    /** "SKIP: the next instruction is left out": beyond 7FF, too. */
    private static void skipTurnsOver() {
        for (int at = 0x7FD; at <= 0x7FF; at++) {
            for (int skipped : new int[] {0x0000, 0x9000, 0x920F, 0x93F0, 0x940C, 0x95FF, 0x9409, 0x9001, 0x940B, 0x8000}) {
                boolean hasNext = skipped == 0x9000 || skipped == 0x93F0 || skipped == 0x940C || skipped == 0x95FF;
                FlashBoard b = new Code().w(0x1000).board(at);
                new Code().w(skipped).burn(b, at + 1 & 0x7FF);
                C.due("CPSE at " + hex(at) + " over " + hex(skipped), b.step(), hasNext ? 3 : 2);
                C.due("PC", b.about(0), at + (hasNext ? 3 : 2) & 0x7FF);
                C.due("what is left out is not done", b.about(1), 0);
            }
        }
    }

    /** "PC is k more (k with sign, behind the instruction)"; "k more (with sign)". */
    private static void jumpsTurnOver() {
        int[][] rows = {{0x000, 0xCFFE, 0x7FF}, {0x000, 0xC800, 0x001}, {0x000, 0xC7FF, 0x000}, {0x7FF, 0xC000, 0}, {0x7FF, 0xC001, 1},
            {0x7FF, 0xC7FF, 0x7FF}, {0x7FF, 0xC800, 0}, {0x001, 0xCF00, 0x702}, {0x700, 0xC100, 0x001}};
        for (int[] row : rows) {
            FlashBoard b = new Code().w(row[1]).board(row[0]);
            C.due("RJMP " + hex(row[1]) + " at " + hex(row[0]), b.step(), 2);
            C.due("PC", b.about(0), row[2]);
            b = new Code().w(row[1] | 0x1000).board(row[0]);
            Code.pair(b, 0x5D, 0x200);
            C.due("RCALL at " + hex(row[0]), b.step(), 3);
            C.due("PC", b.about(0), row[2]);
            C.due("PUSHED", b.data(0x1FF) << 8 | b.data(0x200), row[0] + 1 & 0x7FF);
        }
        int[][] branches = {{0x7FF, 0xF000, 0}, {0x7FF, 0xF1F8, 0x3F}, {0x000, 0xF200, 0x7C1}, {0x000, 0xF3F8, 0}, {0x03E, 0xF200, 0x7FF},
            {0x7C0, 0xF1F8, 0}, {0x000, 0xF3F0, 0x7FF}};
        for (int[] row : branches) {
            for (int c = 0; c < 2; c++) {
                FlashBoard b = new Code().w(row[1]).board(row[0]);
                b.put(0x5F, c);
                C.due("branch " + hex(row[1]) + " at " + hex(row[0]), b.step(), 1 + c);
                C.due("PC", b.about(0), c == 1 ? row[2] : row[0] + 1 & 0x7FF);
                b = new Code().w(row[1] | 0x400).board(row[0]);
                b.put(0x5F, 0xFF ^ c);
                C.due("branch if 0 " + hex(row[1]) + " at " + hex(row[0]), b.step(), 1 + c);
                C.due("PC", b.about(0), c == 1 ? row[2] : row[0] + 1 & 0x7FF);
            }
        }
    }

    /** PC takes the 11 lowest bits of Z and of NEXT. */
    private static void elevenBits() {
        int[][] rows = {{0x0800, 0}, {0x07FF, 0x7FF}, {0xFFFF, 0x7FF}, {0x1234, 0x234}, {0x8000, 0}, {0x0A00, 0x200}};
        for (int[] row : rows) {
            FlashBoard b = new Code().w(0x9409).board(0x40);
            Code.pair(b, 30, row[0]);
            b.step();
            C.due("IJMP to " + hex(row[0]), b.about(0), row[1]);
            b = new Code().w(0x9509).board(0x40);
            Code.pair(b, 30, row[0]);
            b.step();
            C.due("ICALL to " + hex(row[0]), b.about(0), row[1]);
            for (int w = 0x940C; w <= 0x95FF; w++) {
                if ((w & 0xFE0C) != 0x940C || (w & 0xF0) != 0x10 && (w & 0xF0) != 0xF0) continue;
                b = new Code().w(w, row[0]).board(0x40);
                C.due(hex(w) + ": cycles", b.step(), (w & 2) == 0 ? 3 : 4);
                C.due(hex(w) + " to " + hex(row[0]), b.about(0), row[1]);
            }
        }
    }

    /** "the APPLICATION is 000 .. 5FF, the BOOT SECTION the rest": what stands at 5FF and 600. */
    private static void pagesOfApplication() {
        for (int at = 0x5FD; at <= 0x601; at++) {
            FlashBoard b = new Code().spm(1).board(at);
            b.run(3);
            C.due("a STORE IN FLASH at " + hex(at + 2), b.about(8), at + 2 >= 0x600 ? 1 : 0);
        }
        FlashBoard b = new FlashBoard();
        C.due("5FF at first", b.word(0x5FF), 0xFFFF);
        C.due("600 at first", b.word(0x600), 0xE004);
        C.due("6B5 at first", b.word(0x6B5), 0xCF54);
        C.due("6B6 at first", b.word(0x6B6), 0xFFFF);
        C.due("7FF at first", b.word(0x7FF), 0xFFFF);
    }
}
