/** Term 5 at its edges, but for the LINE: WINDOWS at their ends, the TIMER, the EEPROM, the WATCHDOG, 54, 55, the PORT. */
public final class EdgesOfCyclesTest {
    private static final Checks C = new Checks();

    public static void main(String[] args) {
        prescalerTurnsOver();
        tickWhereBitsAreZero();
        countTurnsOver();
        compareAtTheEnds();
        storedInTheCycleOfATick();
        timerBits();
        eepromAddresses();
        eepromAnew();
        eepromWindow();
        eepromTo3400();
        eepromHolds();
        eepromBits();
        eepromReads();
        eepromWindowWhileWriting();
        dogWindow();
        dogChanges();
        dogBytes();
        dogPeriods();
        dogAtLeast();
        dogCount();
        dogClearedInTime();
        dogInterruptOrReset();
        causeBits();
        vectorBits();
        portBits();
        C.end();
    }

    private static String hex(int v) {
        return Integer.toHexString(v);
    }

    // ---- TIMER

    /** "The PRESCALER (10 bits) is 1 more". */
    private static void prescalerTurnsOver() {
        FlashBoard b = new Code().w(0x9588).board(0x100);
        for (int i = 1; i <= 3; i++) {
            b.pass(1023);
            C.due("PRESCALER", b.about(10), 1024 - i);
        }
        b = new Code().w(0x9588).board(0x100);
        b.pass(1023);
        C.due("its last", b.about(10), 1023);
        b.step();
        C.due("turned over", b.about(10), 0);
        b.step();
        C.due("and on", b.about(10), 1);
    }

    /** "1: always; 2, 3, 4, 5: if its lowest 3, 6, 8, 10 bits are 0; others: none." */
    private static void tickWhereBitsAreZero() {
        int[] each = {0, 1, 8, 64, 256, 1024, 0, 0};
        for (int clock = 0; clock < 8; clock++) {
            FlashBoard b = new Code().ldi(24, clock).out(0x45, 24).w(0x9588).board(0x100);
            b.run(3);
            int ticks = clock == 1 ? 2 : 0;
            C.due("ticks at first", b.data(0x46), ticks);
            int to = each[clock] <= 1 ? 100 : each[clock];
            b.pass(to - 1 - 3);
            ticks = clock == 1 ? to - 2 : 0;
            C.due("ahead of it, clock " + clock, b.data(0x46), ticks);
            C.due("PRESCALER", b.about(10), to - 1);
            b.step();
            C.due("the tick, clock " + clock, b.data(0x46), clock == 1 ? ticks + 1 : each[clock] == 0 ? 0 : 1);
            b.pass(to - 1);
            int ahead = b.data(0x46);
            b.step();
            C.due("the next, clock " + clock, b.data(0x46), each[clock] == 0 ? 0 : ahead + 1);
        }
    }

    private static FlashBoard ticking(int mode, int compare, int count) {
        Code code = new Code().set(0x44, mode).set(0x47, compare).set(0x46, count).ldi(24, 1).out(0x45, 24).nops(9);
        FlashBoard b = code.board(0x100);
        b.run(7);
        return b;
    }

    /** Behind its first tick. */
    private static FlashBoard running(int mode, int compare, int count) {
        FlashBoard b = ticking(mode, compare, count);
        b.step();
        return b;
    }

    /** "else it is 1 more, and if it is 0 then bit 0 of 35 is 1". */
    private static void countTurnsOver() {
        FlashBoard b = ticking(0, 0x80, 0xFD);
        b.step();
        C.due("FE", b.data(0x46), 0xFE);
        b.step();
        C.due("FF", b.data(0x46), 0xFF);
        C.due("no flag", b.data(0x35), 0);
        b.step();
        C.due("turned over", b.data(0x46), 0);
        C.due("bit 0", b.data(0x35), 1);
        b.step();
        C.due("and on", b.data(0x46), 1);
        C.due("bit 0 stays", b.data(0x35), 1);
        b = ticking(2, 0x80, 0xFE);
        b.run(2);
        C.due("beyond 47 it turns over, too", b.data(0x46), 0);
        C.due("with bit 0", b.data(0x35), 1);
        // Bits of 35 that are 1 already stay so.
        b = running(0, 0x80, 0x70);
        b.start(0x200);
        b.pass(0x20);
        C.due("bit 1", b.data(0x35), 2);
        b.pass(0x80);
        C.due("and bit 0", b.data(0x35), 3);
        b.pass(0x100);
        C.due("both again", b.data(0x35), 3);
    }

    /** "46 is 0 if bit 1 of 44 is 1 and it is 47"; "Then, if it is 47, bit 1 of 35 is 1." */
    private static void compareAtTheEnds() {
        FlashBoard b = ticking(2, 0xFF, 0xFD);
        b.run(2);
        C.due("46 is FF, 47 is", b.data(0x46), 0xFF);
        C.due("bit 1", b.data(0x35), 2);
        b.step();
        C.due("0 by the compare", b.data(0x46), 0);
        C.due("no bit 0", b.data(0x35), 2);
        b = ticking(2, 0, 0xFE);
        b.run(2);
        C.due("46 turns over to 47", b.data(0x46), 0);
        C.due("both bits", b.data(0x35), 3);
        b.run(3);
        C.due("47 is 0: it stays", b.data(0x46), 0);
        b = ticking(0, 0, 0xFE);
        b.run(3);
        C.due("without bit 1 of 44 it goes on", b.data(0x46), 1);
        C.due("both bits", b.data(0x35), 3);
        b = ticking(0, 1, 0xFF);
        b.step();
        C.due("0 is not 47", b.data(0x35), 1);
        b.step();
        C.due("1 is", b.data(0x35), 3);
        // 46 becomes 47 by a STORE: no tick, no flag.
        b = new Code().set(0x47, 7).set(0x46, 7).nops(1).board(0x100);
        b.run(5);
        C.due("no tick, no flag", b.data(0x35), 0);
        b = running(2, 7, 7);
        C.due("a tick from 47: 0", b.data(0x46), 0);
        C.due("no flag", b.data(0x35), 0);
        b = running(0, 7, 7);
        C.due("without bit 1 of 44: 8", b.data(0x46), 8);
        C.due("no flag", b.data(0x35), 0);
    }

    /** First what an instruction STORES, then its cycle's tick. */
    private static void storedInTheCycleOfATick() {
        FlashBoard b = running(0, 0x80, 0x10);
        new Code().out(0x46, 25).burn(b, 0x180);
        b.put(25, 0xFF);
        b.start(0x180);
        b.step();
        C.due("46 STORED, then the tick", b.data(0x46), 0);
        C.due("bit 0", b.data(0x35), 1);
        b = running(0, 0x80, 0xFE);
        new Code().out(0x35, 25).out(0x35, 25).burn(b, 0x180);
        b.put(25, 0xFF);
        b.start(0x180);
        C.due("46", b.data(0x46), 0xFF);
        b.step();
        C.due("35 STORED, then the tick sets bit 0", b.data(0x35), 1);
        b.step();
        C.due("and behind it, 0", b.data(0x35), 0);
        b = running(0, 0x80, 0x7D);
        new Code().out(0x45, 2).burn(b, 0x180);
        b.start(0x180);
        b.step();
        C.due("45 STORED as 0: no tick in that cycle", b.data(0x46), 0x7E);
        b = running(0, 0x80, 0x7D);
        new Code().sts(0x47, 25).burn(b, 0x180);
        b.put(25, 0x7F);
        b.start(0x180);
        b.step();
        C.due("47 STORED, then the tick to it", b.data(0x35), 2);
    }

    /** Bits of 44 and 45 other than those that are told do nothing; 35 has two bits. */
    private static void timerBits() {
        FlashBoard b = new Code().set(0x44, 0xFD).set(0x47, 2).ldi(24, 0xF9).out(0x45, 24).nops(9).board(0x100);
        b.run(10);
        C.due("clock 1 by F9, no turn by FD", b.data(0x46), 5);
        for (int v = 0; v < 256; v++) {
            FlashBoard x = running(0, 0, 0xFF);
            new Code().out(0x45, 2).out(0x35, 25).burn(x, 0x180);
            x.put(25, v);
            x.start(0x180);
            C.due("both", x.data(0x35), 3);
            x.run(2);
            C.due("35 by " + hex(v), x.data(0x35), 3 & ~v);
        }
    }

    // ---- EEPROM

    private static Code writing(int address, int v) {
        return new Code().ldi(24, address).out(0x41, 24).ldi(24, v).out(0x40, 24).w(0x9AFA, 0x9AF9, 0x9588);
    }

    private static void eepromAddresses() {
        for (int k : new int[] {0, 1, 0x7F, 0x80, 0xFE, 0xFF}) {
            FlashBoard b = writing(k, k ^ 0x5A).board(0x100);
            b.run(6);
            for (int i = 0; i < 256; i += 1) C.due("byte " + i, b.eeprom(i), i == k ? k ^ 0x5A : 0xFF);
            C.due("41", b.data(0x41), k);
        }
    }

    /** "the byte at 41 becomes 40": whatever it was. */
    private static void eepromAnew() {
        FlashBoard b = new Code().out(0x40, 25).w(0x9AFA, 0x9AF9, 0x9588).board(0x100);
        for (int v : new int[] {0x0F, 0xF0, 0, 0xFF, 0x55}) {
            b.put(25, v);
            b.start(0x100);
            b.pass(3500);
            C.due("byte 0 becomes " + v, b.eeprom(0), v);
        }
    }

    /** "with a WINDOW of 4 cycles, at its end 0". */
    private static void eepromWindow() {
        FlashBoard b = new Code().ldi(24, 4).out(0x3F, 24).nops(4).board(0x100);
        b.run(2);
        for (int i = 3; i >= 1; i--) {
            C.due("WINDOW", b.about(19), i);
            C.due("bit 2", b.data(0x3F), 4);
            b.step();
        }
        C.due("no WINDOW", b.about(19), 0);
        C.due("bit 2 at the end", b.data(0x3F), 0);
        for (int nops = 0; nops < 6; nops++) {
            b = new Code().ldi(24, 4).ldi(25, 2).out(0x3F, 24).nops(nops).out(0x3F, 25).board(0x100);
            b.run(4 + nops);
            C.due("writes behind " + nops, b.about(15), nops < 3 ? 3399 : 0);
            C.due("3F", b.data(0x3F), nops < 3 ? 2 : 0);
            // Anew by a byte with bit 2 (and 1, but behind the end that is not 1 ahead).
            b = new Code().ldi(24, 4).ldi(25, 6).out(0x3F, 24).nops(nops).out(0x3F, 25).board(0x100);
            b.run(4 + nops);
            C.due("06 behind " + nops, b.data(0x3F), nops < 3 ? 2 : 4);
            C.due("WINDOW", b.about(19), nops < 3 ? 0 : 3);
        }
        b = new Code().ldi(24, 4).ldi(25, 8).out(0x3F, 24).out(0x3F, 25).out(0x3F, 2).board(0x100);
        b.run(4);
        C.due("a 0 at bit 2 leaves it", b.data(0x3F), 0x0C);
        C.due("and its WINDOW", b.about(19), 2);
        b.step();
        C.due("bit 3 is STORED", b.data(0x3F), 4);
        C.due("WINDOW", b.about(19), 1);
    }

    /** "bit 1 is 1 for 3400 cycles". */
    private static void eepromTo3400() {
        FlashBoard b = writing(5, 0x12).board(0x100);
        b.run(6);
        C.due("SBI's two cycles", b.about(15), 3398);
        b.pass(3397);
        C.due("a cycle yet", b.about(15), 1);
        C.due("bit 1 yet", b.data(0x3F), 2);
        b.step();
        C.due("none", b.about(15), 0);
        C.due("bit 1", b.data(0x3F), 0);
    }

    /** "40, 41 hold what is STORED, but not while bit 1 is 1": to its very last cycle. */
    private static void eepromHolds() {
        for (int left = 1; left >= 0; left--) {
            for (int place = 0x40; place <= 0x41; place++) {
                FlashBoard b = writing(5, 0x12).board(0x100);
                new Code().out(place, 25).w(0x9588).burn(b, 0x180);
                b.run(6);
                b.pass(3398 - left);
                C.due("left", b.about(15), left);
                b.put(25, 0x77);
                b.start(0x180);
                b.step();
                C.due(hex(place) + " with " + left, b.data(place), left == 0 ? 0x77 : place == 0x40 ? 0x12 : 5);
            }
            // Nor is a byte written or read while bit 1 is 1.
            for (int v : new int[] {1, 6}) {
                FlashBoard b = writing(5, 0x12).board(0x100);
                new Code().out(0x3F, 26).out(0x3F, 25).w(0x9588).burn(b, 0x180);
                b.run(6);
                b.pass(3398 - left - (v == 6 ? 1 : 0));
                b.start(v == 6 ? 0x180 : 0x181);
                b.put(26, 4);
                b.put(25, v);
                if (v == 6) b.step();
                int want = left == 0 ? v == 1 ? 5 : 1 : 1;
                C.due("cycles of STORING " + v + ", left " + left, b.step(), want);
                C.due("writes again", b.about(15), v == 6 && left == 0 ? 3399 : 0);
            }
        }
    }

    private static void eepromBits() {
        for (int v = 0; v < 256; v++) {
            FlashBoard b = new Code().out(0x3F, 25).w(0x9588).board(0x100);
            b.put(25, v);
            C.due("cycles of 3F by " + hex(v), b.step(), (v & 1) == 1 ? 5 : 1);
            C.due("3F by " + hex(v), b.data(0x3F), v & 8 | ((v & 1) == 1 ? 0 : v & 4));
            C.due("writes by " + hex(v), b.about(15), 0);
            C.due("40", b.data(0x40), (v & 1) == 1 ? 0xFF : 0);
            b = new Code().w(0x9AFA).out(0x3F, 25).w(0x9588).board(0x100);
            b.put(25, v);
            b.step();
            boolean writes = (v & 2) != 0;
            boolean reads = (v & 1) != 0 && !writes;
            C.due("with bit 2: cycles by " + hex(v), b.step(), reads ? 5 : 1);
            C.due("with bit 2: 3F by " + hex(v), b.data(0x3F), v & 8 | (writes ? 2 : reads ? 0 : 4));
            C.due("with bit 2: writes by " + hex(v), b.about(15), writes ? 3399 : 0);
            C.due("with bit 2: the byte", b.eeprom(0), writes ? 0 : 0xFF);
            C.due("with bit 2: WINDOW by " + hex(v), b.about(19), writes || reads ? 0 : (v & 4) != 0 ? 3 : 1);
        }
    }

    /** "40 becomes the byte at 41, and the instruction takes 4 cycles more": whatever STORES it. */
    private static void eepromReads() {
        int[][] rows = {{0x9390, 0, 0x003F, 6}, {0x939C, 26, 0x3F, 6}, {0x939D, 26, 0x3F, 6}, {0x939E, 26, 0x40, 6}, {0x8398, 28, 0x3F, 6},
            {0x8391, 30, 0x3E, 6}, {0x939F, 0x5D, 0x3F, 6}, {0xBB9F, 0, 0, 5}, {0x9AF8, 0, 0, 6}};
        for (int[] row : rows) {
            FlashBoard b = new Code().w(row[0], row[1] == 0 ? row[2] : 0).board(0x100);
            b.put(25, 1);
            if (row[1] != 0) Code.pair(b, row[1], row[2]);
            C.due("cycles of " + hex(row[0]), b.step(), row[3]);
            C.due("40", b.data(0x40), 0xFF);
            C.due("the next instruction has no more", b.step(), 1);
        }
        for (int k : new int[] {0, 1, 2, 0x55, 0x7F, 0x80, 0xFE, 0xFF}) readsThatByte(k);
        // A CALL whose PUSHED low byte has bit 0: 4 and 4.
        FlashBoard b = new Code().w(0x940E, 0x0200).board(0x0FF);
        Code.pair(b, 0x5D, 0x3F);
        C.due("CALL PUSHES 01", b.step(), 8);
        b = new Code().w(0xD000).board(0x100);
        Code.pair(b, 0x5D, 0x40);
        C.due("RCALL PUSHES its high byte 01", b.step(), 7);
    }

    /** The byte at 41 and none of its neighbours: one of them has been written. */
    private static void readsThatByte(int k) {
        FlashBoard b = writing(k, k ^ 0x5A).board(0x100);
        new Code().out(0x41, 25).ldi(24, 0x11).out(0x40, 24).ldi(24, 1).out(0x3F, 24).w(0x9588).burn(b, 0x180);
        b.pass(3500);
        for (int at : new int[] {k, k ^ 1, k ^ 0x80, k ^ 0xFF, k}) {
            b.put(25, at);
            b.start(0x180);
            b.run(5);
            C.due("the byte at " + hex(at), b.data(0x40), at == k ? k ^ 0x5A : 0xFF);
            C.due("41 stays", b.data(0x41), at);
        }
    }

    /** "a 1 at bit 2: it is 1, with a WINDOW": no other bit makes it so, and a write that goes on hinders none. */
    private static void eepromWindowWhileWriting() {
        for (int v = 0; v < 16; v++) {
            FlashBoard b = writing(5, 0x12).board(0x100);
            new Code().out(0x3F, 25).w(0x9588).burn(b, 0x180);
            b.run(6);
            b.put(25, v);
            b.start(0x180);
            C.due("one cycle", b.step(), 1);
            C.due("3F by " + hex(v) + " while it writes", b.data(0x3F), v & 0x0C | 2);
            C.due("WINDOW by " + hex(v) + " while it writes", b.about(19), (v & 4) != 0 ? 3 : 0);
            C.due("it writes on", b.about(15), 3397);
        }
    }

    // ---- WATCHDOG

    /** A change: 18, then a byte. */
    private static Code dog(int v) {
        return new Code().ldi(24, 0x18).ldi(25, v).sts(0x60, 24).sts(0x60, 25).w(0x9588);
    }

    /** "bit 4 is 1, with a WINDOW of 4 cycles (anew)". */
    private static void dogWindow() {
        FlashBoard b = new Code().ldi(26, 0x60).ldi(27, 0).ldi(24, 0x18).sts(0x60, 24).nops(3).board(0x100);
        b.run(4);
        C.due("WINDOW", b.about(17), 2);
        b.step();
        C.due("WINDOW", b.about(17), 1);
        C.due("bit 4 yet", b.data(0x60), 0x10);
        b.step();
        C.due("no WINDOW", b.about(17), 0);
        C.due("bit 4 at its end", b.data(0x60), 0);
        int[][] again = {{0x18, 0x10, 2}, {0x58, 0x50, 2}, {0x1F, 0x10, 2}, {0x98, 0x10, 2}};
        for (int[] row : again) {
            b = new Code().ldi(24, 0x18).ldi(25, row[0]).sts(0x60, 24).nops(1).sts(0x60, 25).board(0x100);
            b.run(5);
            C.due("anew by " + hex(row[0]), b.about(17), row[2]);
            C.due("60", b.data(0x60), row[1]);
        }
        // Bit 4 without bit 3: neither a change nor a WINDOW anew.
        b = new Code().ldi(24, 0x18).ldi(25, 0x57).sts(0x60, 24).sts(0x60, 25).board(0x100);
        b.run(3);
        C.due("a WINDOW of two more", b.about(17), 2);
        b.step();
        C.due("ends with this STORE", b.about(17), 0);
        C.due("bit 6 alone", b.data(0x60), 0x40);
        b = new Code().ldi(24, 0x10).sts(0x60, 24).ldi(24, 0x08).sts(0x60, 24).board(0x100);
        b.run(2);
        C.due("10 begins no WINDOW", b.about(17), 0);
        b.run(2);
        C.due("so 08 changes nothing", b.data(0x60), 0);
    }

    /** "then if bit 4 was 1 and is 0 in the byte: bits 5, 3 .. 0": each 0 and 1 of them; bit 7 stays by a 0. */
    private static void dogChanges() {
        for (int v = 0; v < 256; v++) {
            if ((v & 0x10) != 0) continue;
            FlashBoard b = dog(0x40).board(0x700);
            b.pass(4200);
            C.due("flag", b.data(0x60), 0xC0);
            new Code().ldi(24, 0x58).ldi(25, 0x6F).ldi(26, v).sts(0x60, 24).sts(0x60, 25).sts(0x60, 24).sts(0x60, 26).burn(b, 0x720);
            b.start(0x720);
            b.run(5);
            C.due("all 1, the flag stays", b.data(0x60), 0xEF);
            b.run(2);
            C.due("then " + hex(v), b.data(0x60), v & 0x6F | (v < 0x80 ? 0x80 : 0));
        }
    }

    /** Each byte within the WINDOW, and without. */
    private static void dogBytes() {
        for (int v = 0; v < 256; v++) {
            FlashBoard b = dog(v).board(0x100);
            b.run(4);
            boolean changes = (v & 0x10) == 0;
            boolean anew = (v & 0x18) == 0x18;
            C.due("within a WINDOW " + hex(v), b.data(0x60), v & 0x40 | (changes ? v & 0x2F : anew ? 0x10 : 0));
            b = new Code().ldi(25, v).sts(0x60, 25).nops(4).board(0x100);
            b.run(2);
            C.due("without one " + hex(v), b.data(0x60), v & 0x40 | (anew ? 0x10 : 0));
            b.run(4);
            C.due("and its end " + hex(v), b.data(0x60), v & 0x40);
        }
    }

    /** "at least 4096 * 2 to the power of PERIOD (11 if that is more)": PERIODs 0 to 15. */
    private static void dogPeriods() {
        for (int period = 0; period < 16; period++) {
            FlashBoard b = dog(0x08 | period & 7 | (period & 8) << 2).board(0x100);
            b.run(5);
            int due = 4096 << Math.min(period, 11);
            Code.passLong(b, due - 1 - 3);
            C.due("no RESET yet, PERIOD " + period, b.about(6), 0);
            C.due("COUNT", b.about(9), due - 1);
            b.step();
            C.due("the RESET, PERIOD " + period, b.about(6), 1);
            C.due("60", b.data(0x60), 8);
        }
    }

    /** "when it is at least": a shorter PERIOD than COUNT has gone. */
    private static void dogAtLeast() {
        FlashBoard b = dog(0x0B).board(0x100);
        new Code().ldi(24, 0x18).ldi(25, 0x09).sts(0x60, 24).sts(0x60, 25).w(0x9588).burn(b, 0x180);
        b.run(5);
        b.pass(20000);
        b.start(0x180);
        b.run(3);
        C.due("COUNT", b.about(9), 20003 + 4);
        C.due("the STORE of a shorter PERIOD", b.step(), 1);
        C.due("a RESET in its first cycle", b.about(6), 1);
    }

    /** "if bit 3 or 6 is 1, COUNT is 1 more (else it is 0)". */
    private static void dogCount() {
        for (int v : new int[] {0x00, 0x07, 0x27, 0x08, 0x40, 0x48}) {
            FlashBoard b = dog(v).board(0x100);
            b.run(5);
            b.pass(97);
            C.due("COUNT with " + hex(v), b.about(9), (v & 0x48) == 0 ? 0 : 100);
        }
        FlashBoard b = dog(0x08).board(0x100);
        new Code().ldi(24, 0x18).ldi(25, 0).sts(0x60, 24).sts(0x60, 25).w(0x9588).burn(b, 0x180);
        b.run(5);
        b.pass(4000);
        b.start(0x180);
        b.run(3);
        C.due("COUNT goes on", b.about(9), 4003 + 4);
        b.step();
        C.due("then it is 0", b.about(9), 0);
        b.pass(5000);
        C.due("and stays", b.about(9), 0);
        C.due("no RESET", b.about(6), 0);
    }

    /** "the watchdog's COUNT is 0": in the last cycle, and one behind it. */
    private static void dogClearedInTime() {
        for (int left = 1; left <= 2; left++) {
            FlashBoard b = dog(0x08).board(0x100);
            new Code().w(0x95A8).burn(b, 0x180);
            b.run(5);
            b.pass(4096 - 3 - left);
            C.due("COUNT", b.about(9), 4096 - left);
            b.start(0x180);
            b.step();
            C.due("cleared, then its cycle", b.about(9), 1);
            C.due("no RESET", b.about(6), 0);
        }
    }

    /** "it is 0, and if bit 6 is 1 bit 7 is 1; else a RESET comes". */
    private static void dogInterruptOrReset() {
        for (int v : new int[] {0x08, 0x40, 0x48}) {
            FlashBoard b = dog(v).board(0x100);
            b.fuses(15);
            b.run(5);
            b.pass(4092);
            C.due("ahead of it " + hex(v), b.data(0x60), v);
            b.step();
            C.due("60 by " + hex(v), b.data(0x60), v == 8 ? 8 : v | 0x80);
            C.due("COUNT", b.about(9), 0);
            C.due("RESETS", b.about(6), v == 8 ? 1 : 0);
            b.pass(4096);
            C.due("and again " + hex(v), b.about(6), v == 8 ? 2 : 0);
            if (v != 8) C.due("bit 7 stays", b.data(0x60), v | 0x80);
        }
        // Bit 6 STORED as 0 without a WINDOW: with bit 3 a RESET follows.
        FlashBoard b = dog(0x48).board(0x100);
        new Code().sts(0x60, 2).w(0x9588).burn(b, 0x180);
        b.run(5);
        b.pass(4093);
        b.start(0x180);
        b.step();
        C.due("bit 7 stays, bit 6 is 0", b.data(0x60), 0x88);
        b.pass(4096);
        C.due("the RESET", b.about(6), 1);
    }

    // ---- 54, 55, PORT

    /** "a STORED 0 makes bits 0, 1, 3 0". */
    private static void causeBits() {
        for (int v = 0; v < 256; v++) {
            FlashBoard b = dog(0x08).board(0x100);
            new Code().out(0x54, 25).w(0x9588).burn(b, 0x180);
            b.reset();
            b.start(0x100);
            b.pass(4100);
            C.due("all three", b.data(0x54), 0x0B);
            b.put(25, v);
            b.start(0x180);
            b.step();
            C.due("54 by " + hex(v), b.data(0x54), 0x0B & v);
            C.due("bit 3 of 60 stays as it is", b.data(0x60), 8);
        }
        // "and is STORED as 1 as long as that is"
        for (int cleared = 0; cleared < 2; cleared++) {
            FlashBoard b = dog(0x08).board(0x100);
            new Code().out(0x54, 25).ldi(24, 0x18).sts(0x60, 24).sts(0x60, 2).w(0x9588).burn(b, 0x180);
            b.pass(4100);
            b.put(25, cleared == 1 ? 0xF7 : 0xFF);
            b.start(0x180);
            b.run(4);
            C.due("bit 3 STORED as 0", b.data(0x60), cleared == 1 ? 0 : 8);
        }
    }

    /** "a 1 at bit 0: it is 1 (a WINDOW of 4 cycles); with a 0 there bit 1 is STORED, if bit 0 was 1, and bit 0 is 0". */
    private static void vectorBits() {
        for (int v = 0; v < 256; v++) {
            FlashBoard b = new Code().out(0x55, 25).nops(4).board(0x100);
            b.put(25, v);
            b.step();
            C.due("55 by " + hex(v), b.data(0x55), v & 1);
            C.due("WINDOW", b.about(18), 3 * (v & 1));
            b.run(2);
            C.due("in its last cycle but one", b.data(0x55), v & 1);
            b.step();
            C.due("at its end", b.data(0x55), 0);
            b = new Code().ldi(24, 1).out(0x55, 24).out(0x55, 25).nops(4).board(0x100);
            b.put(25, v);
            b.run(3);
            C.due("55 within a WINDOW by " + hex(v), b.data(0x55), (v & 1) == 1 ? 1 : v & 2);
            b.run(3);
            C.due("behind it", b.data(0x55), (v & 1) == 1 ? 0 : v & 2);
        }
        // Bit 1 is 1 already: it stays within a WINDOW, at its end, and without one.
        FlashBoard b = new Code().ldi(24, 1).ldi(25, 2).out(0x55, 24).out(0x55, 25).out(0x55, 24).nops(3).out(0x55, 2).out(0x55, 24)
            .out(0x55, 2).board(0x100);
        b.run(5);
        C.due("bit 1 with bit 0", b.data(0x55), 3);
        b.run(3);
        C.due("bit 1 behind the WINDOW", b.data(0x55), 2);
        b.run(1);
        C.due("a 0 without a WINDOW", b.data(0x55), 2);
        b.run(2);
        C.due("a 0 within one", b.data(0x55), 0);
        for (int nops = 0; nops < 5; nops++) {
            b = new Code().ldi(24, 1).ldi(25, 2).out(0x55, 24).nops(nops).out(0x55, 25).board(0x100);
            b.run(4 + nops);
            C.due("behind " + nops, b.data(0x55), nops < 3 ? 2 : 0);
        }
    }

    /** "each bit is LOADED as that of 25 if that of 24 is 1, else as the host's PIN; STORED 1s turn bits of 25 over". */
    private static void portBits() {
        for (int i = 0; i < 8; i++) {
            int bit = 1 << i;
            for (int how = 0; how < 8; how++) {
                FlashBoard b = new Code().set(0x24, (how & 1) != 0 ? bit : 0xFF ^ bit).set(0x25, (how & 2) != 0 ? bit : 0xFF ^ bit).in(20, 0x23)
                    .w(0x9918 | i, 0x9B18 | i).out(0x23, 26).board(0x100);
                b.pins((how & 4) != 0 ? bit : 0xFF ^ bit);
                b.run(5);
                boolean one = (how & 1) != 0 ? (how & 2) != 0 : (how & 4) != 0;
                C.due("bit " + i + " of 23", b.data(0x23) & bit, one ? bit : 0);
                C.due("LOADED", b.data(20), b.data(0x23));
                C.due("SBIC", b.step(), one ? 1 : 2);
                b.start(0x108);
                C.due("SBIS", b.step(), one ? 2 : 1);
                int ahead = b.data(0x25);
                b.put(26, bit);
                b.start(0x109);
                b.step();
                C.due("turned over", b.data(0x25), ahead ^ bit);
                b.pins(0);
                C.due("24 stays", b.data(0x24), (how & 1) != 0 ? bit : 0xFF ^ bit);
            }
        }
        FlashBoard b = new Code().out(0x23, 25).out(0x23, 25).out(0x23, 26).board(0x100);
        b.put(25, 0xFF);
        b.step();
        C.due("all turned over", b.data(0x25), 0xFF);
        b.step();
        C.due("and back", b.data(0x25), 0);
        b.step();
        C.due("STORED 0s do nothing", b.data(0x25), 0);
    }
}
