/** Term 3 at its edges: what WAITS, what holds an ENTRY back, sleep, and a RESET while something goes on. */
public final class EdgesOfStepsTest {
    private static final Checks C = new Checks();
    private static final int BY_POWER = 0;
    private static final int BY_HOST = 1;
    private static final int BY_WATCHDOG = 2;
    private static final int FREE = 0x720;

    public static void main(String[] args) {
        flagAndEnable();
        allEight();
        vectorsOfBoth();
        heldBack();
        notHeldBack();
        sleeping();
        entryAtTheEndsOfStack();
        entryStoresInRegisters();
        resetOfWindows();
        resetOfWhatIsWritten();
        resetOfTheLine();
        resetOfTheRest();
        causes();
        watchdogAgain();
        fuse();
        C.end();
    }

    /** "if I is 1, and there is one that is told below with its enable": each of them alone is none. */
    private static void waits(String name, Code code, int cycles, int want) {
        FlashBoard b = code.w(0x9588).board(0x100);
        b.host(7);
        b.pass(cycles);
        C.due(name + ": it sleeps", b.about(2), 1);
        C.due(name + ", I 0", b.about(21), 0);
        b.put(0x5F, 0x7F);
        C.due(name + ", all but I", b.about(21), 0);
        b.put(0x5F, 0x80);
        C.due(name, b.about(21), want);
        int cyclesOfStep = b.step();
        C.due(name + ": the step", cyclesOfStep, want == 0 ? 1 : 4);
        C.due(name + ": ENTRIES", b.about(5), want == 0 ? 0 : 1);
        C.due(name + ": it SLEEPS", b.about(2), want == 0 ? 1 : 0);
    }

    private static Code dog(int v) {
        return new Code().ldi(24, 0x18).ldi(25, v).sts(0x60, 24).sts(0x60, 25);
    }

    /** 46 goes on by one tick from FF, with 47 as it is given. */
    private static Code timer(int from, int compare, int enables) {
        return new Code().set(0x47, compare).set(0x46, from).set(0x6E, enables).ldi(24, 1).out(0x45, 24).ldi(24, 0).out(0x45, 24);
    }

    private static void flagAndEnable() {
        waits("1: bit 6 alone", dog(0x40), 4000, 0);
        waits("1: both", dog(0x40), 4200, 1);
        FlashBoard b = dog(0x40).w(0x9588).board(0x100);
        new Code().set(0x60, 0).w(0x9588).burn(b, 0x200);
        b.pass(4200);
        b.start(0x200);
        b.pass(10);
        b.put(0x5F, 0x80);
        C.due("1: bit 7 stays without bit 6", b.data(0x60), 0x80);
        C.due("1: bit 7 alone", b.about(21), 0);
        waits("2: flag, no enable", timer(0x10, 0x11, 0), 40, 0);
        waits("2: flag, the other's enable", timer(0x10, 0x12, 1), 40, 0);
        waits("2: enable, no flag", timer(0x10, 0x20, 2), 40, 0);
        waits("2: both", timer(0x10, 0x12, 2), 40, 2);
        waits("3: flag, no enable", timer(0xFE, 0x80, 0), 40, 0);
        waits("3: flag, the other's enable", timer(0xFE, 0x80, 2), 40, 0);
        waits("3: enable, no flag", timer(0x10, 0x80, 1), 40, 0);
        waits("3: both", timer(0xFE, 0x80, 1), 40, 3);
        waits("4: flag, no enable", new Code().set(0xC1, 0x10), 400, 0);
        waits("4: enable, no flag", new Code().set(0xC1, 0x90), 100, 0);
        waits("4: both", new Code().set(0xC1, 0x90), 400, 4);
        waits("5: flag, no enable", new Code().set(0xC1, 0x08), 40, 0);
        waits("5: enable, no flag", new Code().set(0xC1, 0x28).sts(0xC6, 1).sts(0xC6, 1), 40, 0);
        waits("5: both", new Code().set(0xC1, 0x20), 40, 5);
        waits("6: flag, no enable", new Code().set(0xC1, 0x08).sts(0xC6, 1), 400, 0);
        waits("6: enable, no flag", new Code().set(0xC1, 0x48).sts(0xC6, 1), 100, 0);
        waits("6: both", new Code().set(0xC1, 0x48).sts(0xC6, 1), 400, 6);
        waits("7: bit 3 0, bit 1 0", new Code().ldi(24, 4).out(0x3F, 24), 40, 0);
        waits("7: bit 3 1, bit 1 1", new Code().ldi(24, 0x0C).out(0x3F, 24).w(0x9AF9), 40, 0);
        waits("7: bit 3 0, bit 1 1", new Code().ldi(24, 0x04).out(0x3F, 24).w(0x9AF9), 40, 0);
        waits("7: bit 3 1, bit 1 0", new Code().ldi(24, 0x08).out(0x3F, 24), 40, 7);
        waits("8: bit 7 0, bit 0 0", new Code().ldi(24, 0x1E).out(0x57, 24), 40, 0);
        waits("8: bit 7 1, bit 0 1", new Code().ldi(24, 0x81).out(0x57, 24), 4, 0);
        waits("8: bit 7 1, bit 0 0", new Code().ldi(24, 0x9E).out(0x57, 24), 40, 8);
    }

    /** "an ENTRY of the first one"; "makes the first told bit 0 of 1, 2, 3, 6": the others' bits stay. */
    private static void allEight() {
        Code code = dog(0x40).set(0x46, 0xFF).set(0x6E, 3).set(0x45, 1).set(0x45, 0).set(0xC1, 0xF8).sts(0xC6, 1);
        FlashBoard b = code.ldi(24, 8).out(0x3F, 24).ldi(24, 0x80).out(0x57, 24).w(0x9588).board(0x100);
        new Code().lds(20, 0xC6).set(0xC1, 0x58).ldi(24, 0).out(0x3F, 24).out(0x57, 24).w(0x9588).burn(b, 0x200);
        Code.pair(b, 0x5D, 0x4FF);
        b.host(9);
        b.pass(4200);
        C.due("60", b.data(0x60), 0xC0);
        C.due("35", b.data(0x35), 3);
        C.due("C0", b.data(0xC0), 0xE0);
        for (int n : new int[] {1, 2, 3, 4, 4}) enters(b, n);
        C.due("60 behind its ENTRY", b.data(0x60), 0x40);
        C.due("35 behind theirs", b.data(0x35), 0);
        C.due("bit 7 of C0 stays", b.data(0xC0), 0xE0);
        b.put(0x5F, 0);
        b.start(0x200);
        b.step();
        enters(b, 5);
        enters(b, 5);
        b.put(0x5F, 0);
        b.start(0x202);
        b.run(2);
        enters(b, 6);
        C.due("bit 6 of C0 behind its ENTRY", b.data(0xC0), 0x20);
        enters(b, 7);
        enters(b, 7);
        C.due("3F stays", b.data(0x3F), 8);
        b.put(0x5F, 0);
        b.start(0x205);
        b.run(2);
        enters(b, 8);
        C.due("57 stays", b.data(0x57), 0x80);
        b.put(0x5F, 0);
        b.start(0x207);
        b.run(2);
        b.put(0x5F, 0x80);
        C.due("none is left", b.about(21), 0);
    }

    private static void enters(FlashBoard b, int n) {
        b.put(0x5F, 0x95);
        C.due("the first that WAITS", b.about(21), n);
        C.due("its ENTRY", b.step(), 4);
        C.due("its VECTOR", b.about(0), 2 * n);
        C.due("I is 0, the rest of SREG stays", b.data(0x5F), 0x15);
    }

    /** "VECTORS 2n, 600 more with bit 1 of 55". */
    private static void vectorsOfBoth() {
        for (int bit = 0; bit < 2; bit++) {
            Code code = new Code().ldi(24, 1).ldi(25, 2 * bit).out(0x55, 24).out(0x55, 25);
            FlashBoard b = code.ldi(24, 0x80).out(0x57, 24).w(0x9588).board(0x100);
            b.pass(10);
            b.put(0x5F, 0x80);
            b.step();
            C.due("VECTOR of 8", b.about(0), 0x10 + bit * 0x600);
            b = code.board(0x100);
            new Code().set(0xC1, 0x20).w(0x9588).burn(b, 0x104);
            b.pass(20);
            b.put(0x5F, 0x80);
            b.step();
            C.due("VECTOR of 5", b.about(0), 0x0A + bit * 0x600);
        }
    }

    /** "and the step ahead was no instruction 9478 or 1001 0101 0001 1000". */
    private static void heldBack() {
        FlashBoard b = new Code().set(0xC1, 0x20).w(0x9478, 0x9478, 0x9478).nops(2).board(0x100);
        Code.pair(b, 0x5D, 0x4FF);
        b.run(3);
        for (int i = 0; i < 3; i++) {
            C.due("WAITS", b.about(21), 5);
            C.due("behind 9478 an instruction", b.step(), 1);
            C.due("PC", b.about(0), 0x105 + i);
        }
        C.due("then the ENTRY", b.step(), 4);
        C.due("PUSHED", b.data(0x4FF) | b.data(0x4FE) << 8, 0x107);
        // 9518 to a 9518: each of them holds back.
        b = new Code().set(0xC1, 0x20).w(0x9518).board(0x100);
        Code.pair(b, 0x5D, 0x4F9);
        for (int i = 0; i < 3; i++) {
            b.put(0x4FA + 2 * i, 1);
            b.put(0x4FB + 2 * i, i == 2 ? 0x40 : 3);
        }
        b.run(2);
        for (int i = 0; i < 3; i++) C.due("RETI", b.step(), 4);
        C.due("no ENTRY yet", b.about(5), 0);
        C.due("PC", b.about(0), 0x140);
        b.step();
        C.due("behind RETI an instruction", b.about(0), 0x141);
        b.step();
        C.due("then the ENTRY", b.about(5), 1);
        // start is no step: the step ahead was 9478 all the same.
        b = new Code().set(0xC1, 0x20).w(0x9478).board(0x100);
        b.run(3);
        b.start(0x180);
        b.step();
        C.due("behind 9478 and start an instruction", b.about(0), 0x181);
        // 9478 with I 1 already: the ENTRY comes ahead of it.
        b = new Code().set(0xC1, 0x20).w(0x9478).nops(2).board(0x100);
        b.run(2);
        b.put(0x5F, 0x80);
        b.step();
        C.due("9478 is not reached", b.about(0), 0x0A);
    }

    private static void notHeldBack() {
        // I by OUT, by STS, by POP of SREG, by another bit's instruction: an ENTRY at once.
        int[][] ways = {{0xBF8F, 0}, {0x9380, 0x005F}, {0x938F, 0}};
        for (int[] way : ways) {
            Code code = new Code().set(0xC1, 0x20).ldi(24, 0x80).w(way[0]);
            if (way[1] != 0) code.w(way[1]);
            FlashBoard b = code.nops(2).board(0x100);
            Code.pair(b, 0x5D, 0x5F);
            b.run(4);
            C.due("I is 1 by " + Integer.toHexString(way[0]), b.data(0x5F), 0x80);
            b.step();
            C.due("an ENTRY at once", b.about(0), 0x0A);
        }
        int[] others = {0x94F8, 0x9468, 0x9488, 0x0000, 0x9508, 0x9479, 0x9528};
        for (int w : others) {
            FlashBoard b = new Code().set(0xC1, 0x20).w(w).board(0x100);
            Code.pair(b, 0x5D, 0x4F0);
            b.run(3);
            b.put(0x5F, 0x80);
            b.step();
            C.due("behind " + Integer.toHexString(w) + " an ENTRY", b.about(0), 0x0A);
        }
        // 9478 that is left out, or that is a NEXT, is no instruction.
        FlashBoard b = new Code().set(0xC1, 0x20).w(0x1000, 0x9478).nops(2).board(0x100);
        b.run(3);
        b.put(0x5F, 0x80);
        b.step();
        C.due("9478 left out", b.about(0), 0x0A);
        b = new Code().set(0xC1, 0x20).w(0x9210, 0x9478).nops(2).board(0x100);
        b.run(3);
        b.put(0x5F, 0x80);
        b.step();
        C.due("9478 as a NEXT", b.about(0), 0x0A);
        // The step ahead was an instruction 9478, but not the one ahead of it.
        b = new Code().set(0xC1, 0x20).w(0x9478).nops(2).board(0x100);
        b.run(4);
        b.step();
        C.due("one instruction, no more", b.about(0), 0x0A);
    }

    /** "If it SLEEPS, and none WAITS: 1 cycle." */
    private static void sleeping() {
        // 46 turns over within cycle 256: a flag, an interrupt.
        Code code = new Code().ldi(24, 1).out(0x45, 24).sts(0x6E, 24).set(0x47, 0xF0).w(0x9478, 0x9588, 0xE005);
        FlashBoard b = code.board(0x100);
        Code.pair(b, 0x5D, 0x4FF);
        b.run(7);
        C.due("it SLEEPS", b.about(2), 1);
        int left = 256 - b.data(0x46);
        for (int i = 0; i < left; i++) C.due("a cycle of sleep", b.step(), 1);
        C.due("now one WAITS", b.about(21), 3);
        C.due("it SLEEPS yet", b.about(2), 1);
        C.due("PC rests", b.about(0), 0x109);
        C.due("the ENTRY", b.step(), 4);
        C.due("it SLEEPS no more", b.about(2), 0);
        C.due("PUSHED is what stands behind", b.data(0x4FF), 0x09);
        C.due("steps", b.about(4), 7 + left + 1);
        // A flag without I wakes nothing; nor does one without its enable.
        b = new Code().set(0xC1, 0x20).w(0x9588).board(0x100);
        C.due("pass in sleep", b.pass(1000), 1000);
        C.due("PC", b.about(0), 0x104);
        b = new Code().w(0x9478, 0x9588).board(0x100);
        b.run(300);
        C.due("no enable", b.about(2), 1);
        C.due("steps of sleep", b.about(4), 300);
        C.due("cycles of sleep", b.about(3), 300);
    }

    /** An ENTRY's PUSH where SP turns over, and where it is lost. */
    private static void entryAtTheEndsOfStack() {
        int[][] rows = {{0x0000, 0xFFFE, 0, 0xC3}, {0x0001, 0xFFFF, 0, 7}, {0x0500, 0x04FE, 0x4FF, 7}, {0xFFFF, 0xFFFD, 0x4FF, 0},
            {0x04FF, 0x04FD, 0x4FE, 7}, {0x0100, 0x00FE, 0x100, 0xC3}};
        for (int[] row : rows) {
            FlashBoard b = new Code().set(0xC1, 0x20).nops(1).board(0x700);
            b.run(2);
            b.start(0x7C3);
            Code.pair(b, 0x5D, row[0]);
            b.put(0x5F, 0x80);
            C.due("ENTRY at SP " + Integer.toHexString(row[0]), b.step(), 4);
            C.due("SP", b.about(1), row[1]);
            C.due("PUSHED", b.data(row[2]), row[3]);
            C.due("PC", b.about(0), 0x0A);
        }
    }

    private static FlashBoard atEntry(Code code, int sp, int pc) {
        FlashBoard b = code.nops(1).board(0x100);
        b.run(code.size() > 4 ? 4 : 2);
        b.start(pc);
        Code.pair(b, 0x5D, sp);
        b.put(0x5F, 0x80);
        return b;
    }

    /** "PC is PUSHED, then I is 0, PC is the VECTOR: 4 cycles (whatever the PUSH STORES)". */
    private static void entryStoresInRegisters() {
        FlashBoard b = atEntry(new Code().set(0xC1, 0x20), 0x5F, 0x7FF);
        C.due("PUSH into SREG", b.step(), 4);
        C.due("then I is 0", b.data(0x5F), 0x7F);
        C.due("the high byte went into SPH, then SP is 1 less", b.about(1), 0x5D);
        b = atEntry(new Code().set(0xC1, 0x20), 0x60, 0x7FF);
        b.step();
        C.due("the high byte in SREG", b.data(0x5F), 7);
        b = atEntry(new Code().set(0xC1, 0x20), 0x3F, 0x101);
        b.put(0x100, 0);
        C.due("PUSH reads the EEPROM: 4 cycles", b.step(), 4);
        C.due("40", b.data(0x40), 0xFF);
        C.due("the next step has no more cycles", b.step(), 1);
        b = atEntry(new Code().set(0xC1, 0x20), 0x57, 0x101);
        b.step();
        C.due("PUSH into 57: a WINDOW", b.about(16), 0);
        C.due("which these 4 cycles end", b.data(0x57), 0);
        b = atEntry(new Code().set(0xC1, 0x20), 0x55, 0x101);
        b.step();
        C.due("PUSH into 55", b.about(0), 0x0A);
        b = atEntry(new Code().set(0xC1, 0x20).ldi(24, 1).out(0x55, 24), 0x55, 0x102);
        b.step();
        C.due("bit 1 of 55 by that PUSH: the VECTOR comes behind it", b.about(0), 0x60A);
        b = atEntry(new Code().set(0xC1, 0x20), 0xC1, 0x100);
        b.step();
        C.due("PUSH into C1: the ENTRY goes on", b.about(0), 0x0A);
        C.due("C1", b.data(0xC1), 0);
    }

    // ---- a RESET while something goes on

    /** A board on which a program has been done, and COUNT is 4095 behind it. */
    private static FlashBoard going(Code code, int steps, int hostBytes) {
        FlashBoard dry = code.board(FREE);
        for (int i = 0; i < hostBytes; i++) dry.host(i + 1);
        dry.run(steps);
        int cycles = dry.about(3);
        FlashBoard b = code.board(FREE);
        dog(8).w(0x9588).burn(b, 0x700);
        b.start(0x700);
        b.run(5);
        b.pass(4095 - cycles - 3);
        C.due("COUNT ahead of it", b.about(9), 4095 - cycles);
        b.start(FREE);
        for (int i = 0; i < hostBytes; i++) b.host(i + 1);
        b.run(steps);
        C.due("COUNT", b.about(9), 4095);
        return b;
    }

    private static void resets(FlashBoard b, int cause) {
        if (cause == BY_POWER) {
            C.due("power goes", b.power(false) ? 1 : 0, 1);
            C.due("power comes", b.power(true) ? 1 : 0, 0);
        } else if (cause == BY_HOST) {
            b.reset();
        } else {
            C.due("the cycle of the RESET", b.step(), 1);
            C.due("RESETS by the watchdog", b.about(6), 1);
        }
    }

    /** What every RESET leaves: all REGISTERS, and all that about tells. */
    private static void isReset(String name, FlashBoard b, int cause, int host) {
        int flags = cause == BY_POWER ? 1 : cause == BY_HOST ? 3 : 9;
        for (int a = 0x20; a < 0x100; a++) {
            int want = a == 0xC0 ? 0x20 : a == 0x54 ? flags : a == 0x60 && cause == BY_WATCHDOG ? 8 : 0;
            C.due(name + ": " + Integer.toHexString(a), b.data(a), want);
        }
        C.due(name + ": PC", b.about(0), 0x600);
        for (int what : new int[] {1, 2, 7, 8, 9, 10, 12, 13, 14, 15, 16, 17, 18, 19, 21}) {
            C.due(name + ": about " + what, b.about(what), 0);
        }
        C.due(name + ": waits at the host", b.about(11), host);
    }

    private static void resetOfWindows() {
        Code[] codes = {new Code().ldi(24, 0x1F).out(0x57, 24), new Code().ldi(24, 0x18).sts(0x60, 24), new Code().ldi(24, 1).out(0x55, 24),
            new Code().w(0x9AFA)};
        int[] places = {0x57, 0x60, 0x55, 0x3F};
        int[] holds = {0x1F, 0x18, 1, 4};
        int[] left = {3, 2, 3, 2};
        for (int i = 0; i < 4; i++) {
            for (int cause = 0; cause < 3; cause++) {
                FlashBoard b = going(codes[i], i == 3 ? 1 : 2, 0);
                C.due("a WINDOW", b.about(16 + i), left[i]);
                C.due("its bit", b.data(places[i]), holds[i]);
                resets(b, cause);
                isReset("WINDOW " + i + ", RESET " + cause, b, cause, 0);
            }
        }
    }

    private static void resetOfWhatIsWritten() {
        for (int cause = 0; cause < 3; cause++) {
            FlashBoard b = going(new Code().ldi(24, 0x77).out(0x40, 24).w(0x9AFA, 0x9AF9), 4, 0);
            C.due("the EEPROM writes", b.about(15), 3398);
            resets(b, cause);
            isReset("EEPROM, RESET " + cause, b, cause, 0);
            C.due("the byte is written", b.eeprom(0), 0x77);
            Code code = new Code().z(0x40).ldi(16, 0x12).w(0x2E00).spm(1).spm(3);
            b = going(code, 10, 0);
            b.burn(0x40, 0x11111111, 0, 0, 0, 0);
            C.due("BUSY", b.about(7), 7999);
            C.due("BUFFER", b.about(8), 1);
            C.due("57", b.data(0x57), 0x43);
            resets(b, cause);
            isReset("BUSY, RESET " + cause, b, cause, 0);
            C.due("the words are as they are", b.word(0x40), 0x1111);
            new Code().spm(5).w(0x9588).burn(b, 0x7C0);
            b.start(0x7C0);
            Code.pair(b, 30, 0x80);
            b.run(3);
            C.due("the next WRITE has an empty BUFFER", b.word(0x40), 0x1111);
            C.due("and is done", b.about(7), 7999);
        }
    }

    private static void resetOfTheLine() {
        for (int cause = 0; cause < 3; cause++) {
            FlashBoard b = going(new Code().set(0xC1, 0x18).ldi(20, 0x5A).sts(0xC6, 20).sts(0xC6, 20), 5, 0);
            C.due("it is sent", b.about(13), 157);
            C.due("one waits", b.data(0xC0), 0);
            resets(b, cause);
            isReset("sending, RESET " + cause, b, cause, 0);
            b.pass(700);
            C.due("nothing more is sent", b.sent(), 0);
            b = going(new Code().set(0xC1, 0x18).stay(), 240, 5);
            C.due("two received", b.about(12), 2);
            C.due("one comes", b.about(14) > 0 ? 1 : 0, 1);
            resets(b, cause);
            isReset("receiving, RESET " + cause, b, cause, 2);
            new Code().set(0xC1, 0x10).w(0x9588).burn(b, FREE);
            b.start(FREE);
            b.pass(163);
            C.due("the next of the host's bytes comes anew", b.data(0xC6), 4);
            b = going(new Code().set(0xC1, 0x18).sts(0xC6, 20).stay(), 340, 4);
            C.due("lost, all sent", b.data(0xC0), 0xE8);
            resets(b, cause);
            isReset("flags, RESET " + cause, b, cause, 0);
        }
    }

    private static void resetOfTheRest() {
        for (int cause = 0; cause < 3; cause++) {
            Code code = new Code().set(0x24, 0xFF).set(0x25, 0x0F).set(0x3E, 1).set(0x44, 2).set(0x47, 9).set(0x46, 8).set(0x45, 1)
                .set(0x6E, 3).set(0x4A, 1).set(0x4B, 2).set(0xC2, 3).set(0xC4, 4).set(0xC5, 5).set(0x5D, 6).set(0x5E, 7).set(0x5F, 0x7F)
                .set(0x40, 8).set(0x41, 9).w(0x9588);
            FlashBoard b = going(code, 2 * 18 + 1, 0);
            C.due("it SLEEPS", b.about(2), 1);
            C.due("35", b.data(0x35) != 0 ? 1 : 0, 1);
            b.put(7, 0x77);
            b.put(0x100, 0x78);
            b.put(0x4FF, 0x79);
            b.pins(0xF0);
            resets(b, cause);
            boolean power = cause == BY_POWER;
            C.due("R7, RESET " + cause, b.data(7), power ? 0 : 0x77);
            C.due("R24", b.data(24), power ? 0 : 9);
            C.due("first of RAM", b.data(0x100), power ? 0 : 0x78);
            C.due("last of RAM", b.data(0x4FF), power ? 0 : 0x79);
            C.due("the host's PINS", b.pins(0), 0xF0);
            isReset("the rest, RESET " + cause, b, cause, 0);
            C.due("steps go on", b.about(4) > 40 ? 1 : 0, 1);
            C.due("cycles go on", b.about(3) >= 4100 - 5 ? 1 : 0, 1);
            C.due("FLASH stays", b.word(FREE), 0xEF8F);
        }
    }

    /** "54 what it was, with bit 0 (by power; the others 0), 1 (by the host), 3 (by the watchdog) 1". */
    private static void causes() {
        FlashBoard b = new FlashBoard();
        C.due("by power", b.data(0x54), 1);
        b.reset();
        C.due("by the host", b.data(0x54), 3);
        b.reset();
        C.due("by the host again", b.data(0x54), 3);
        dog(8).w(0x9588).burn(b, FREE);
        b.start(FREE);
        b.pass(4100);
        C.due("one by the watchdog", b.about(6), 1);
        C.due("by the watchdog, too", b.data(0x54), 0x0B);
        C.due("60", b.data(0x60), 8);
        b.reset();
        C.due("the host's leaves the watchdog's", b.data(0x54), 0x0B);
        C.due("so bit 3 of 60 is 1", b.data(0x60), 8);
        b.power(false);
        C.due("without power as it was", b.data(0x54), 0x0B);
        b.power(true);
        C.due("by power alone", b.data(0x54), 1);
        C.due("RESETS by the watchdog are told yet", b.about(6), 1);
        C.due("so bit 3 of 60 is 0", b.data(0x60), 0);
        new Code().ldi(24, 0).out(0x54, 24).burn(b, FREE);
        b.start(FREE);
        b.run(2);
        C.due("all 0", b.data(0x54), 0);
        b.reset();
        C.due("the host's alone", b.data(0x54), 2);
    }

    /** A RESET by the watchdog leaves bit 3 of 60 1 and PERIOD 0: the next comes 4096 cycles later. */
    private static void watchdogAgain() {
        FlashBoard b = dog(8).w(0x9588).board(0x700);
        new Code().w(0x9588).burn(b, 0);
        b.fuses(15);
        b.run(5);
        b.pass(4093);
        C.due("the first", b.about(6), 1);
        b.pass(4095);
        C.due("not yet", b.about(6), 1);
        C.due("COUNT", b.about(9), 4095);
        b.pass(1);
        C.due("the second", b.about(6), 2);
        C.due("it does not SLEEP", b.about(2), 0);
        C.due("PC", b.about(0), 0);
    }

    /** "PC is 600 with FUSE 1, else 0": by each RESET. */
    private static void fuse() {
        for (int fuse = 0; fuse < 2; fuse++) {
            for (int cause = 0; cause < 3; cause++) {
                FlashBoard b = going(new Code().nops(3), 3, 0);
                b.fuses(fuse << 4);
                resets(b, cause);
                C.due("PC with FUSE " + fuse, b.about(0), fuse == 1 ? 0x600 : 0);
            }
        }
    }
}
