import java.util.NoSuchElementException;

/** Promises 1 to 18 at their edges: each input that is refused, each edge of an allowed one, each call without power. */
public final class EdgesOfPromisesTest {
    private static final Checks C = new Checks();
    private static final int BOOT_CODE = 0x700;
    private static final int[] FAR = {Integer.MIN_VALUE, Integer.MIN_VALUE + 1, -65536, -257, -2, -1};

    /** A call, whatever it answers. */
    interface Act {
        void on(FlashBoard b);
    }

    public static void main(String[] args) {
        newObject();
        step();
        run();
        pass();
        host();
        sentAndGot();
        burn();
        word();
        data();
        put();
        eeprom();
        pins();
        fuses();
        start();
        reset();
        power();
        about();
        refusedChangeNothing();
        readingChangesNothing();
        withoutPowerNothingGoesBy();
        callsWithoutPower();
        powerComesBack();
        C.end();
    }

    // ---- boards on which much goes on

    /** BUSY, the EEPROM written, a line in both directions, the timer, the watchdog, pins, and a BUFFER with a word. */
    private static FlashBoard busy() {
        FlashBoard b = new FlashBoard();
        Code code = new Code().set(0xC4, 1).set(0xC1, 0x18).sts(0xC6, 20).nops(1).sts(0xC6, 21).set(0x44, 2).set(0x47, 0x30);
        code.ldi(24, 3).out(0x45, 24).z(0x46).spm(1).ldi(30, 0xC0).spm(3).ldi(24, 0x66).out(0x40, 24).out(0x41, 24);
        code.w(0x9AFA, 0x9AF9).ldi(24, 0x18).ldi(25, 0x48).sts(0x60, 24).sts(0x60, 25).nops(3).burn(b, BOOT_CODE);
        int steps = code.size() - 9;
        b.burn(0x60, 0x01020304, 0, 0, 0, 0);
        for (int i = 0; i < 5; i++) b.host(0x31 + i);
        b.start(BOOT_CODE);
        b.put(20, 0xA1);
        b.put(21, 0xA2);
        b.put(0x4FF, 0x7E);
        Code.pair(b, 0x5D, 0x3C5);
        b.pins(0x96);
        b.run(steps);
        return b;
    }

    /** The WINDOWS of 57, 55 and 3F, with LOCKS and FUSE other than at first. */
    private static FlashBoard windows() {
        FlashBoard b = new FlashBoard();
        Code code = new Code().ldi(24, 0x1F).ldi(25, 1).ldi(26, 4).out(0x57, 24).out(0x55, 25).out(0x3F, 26).nops(2);
        code.burn(b, BOOT_CODE);
        b.fuses(0x05);
        b.start(BOOT_CODE);
        b.run(6);
        return b;
    }

    /** The WINDOW of 60, with bytes received, one lost, and bytes that the host has. */
    private static FlashBoard received() {
        FlashBoard b = new FlashBoard();
        Code code = new Code().set(0xC1, 0x18).sts(0xC6, 24).ldi(25, 0x58);
        code.nops(13).w(0x95A8, 0xCFF1).sts(0x60, 25).nops(3).burn(b, BOOT_CODE);
        for (int i = 0; i < 4; i++) b.host(0xC1 + i);
        b.start(BOOT_CODE);
        b.pass(600);
        b.start(BOOT_CODE + 0x15);
        b.step();
        return b;
    }

    /** It SLEEPS, with an interrupt's flag and enable, but I 0. */
    private static FlashBoard asleep() {
        FlashBoard b = new FlashBoard();
        new Code().set(0xC1, 0x28).ldi(24, 1).out(0x45, 24).w(0x9588).burn(b, BOOT_CODE);
        b.start(BOOT_CODE);
        b.run(20);
        return b;
    }

    private static FlashBoard madeFor(int which) {
        switch (which) {
            case 0: return busy();
            case 1: return windows();
            case 2: return received();
            case 3: return asleep();
            default: return new FlashBoard();
        }
    }

    private static final int MADE = 5;

    /** What these boards are for: that much goes on, on them. */
    private static void goesOn() {
        FlashBoard b = busy();
        for (int what : new int[] {3, 4, 7, 8, 9, 10, 11, 13, 14, 15}) C.due("busy: about " + what, b.about(what) > 0 ? 1 : 0, 1);
        C.due("busy: a byte waits to be sent", b.data(0xC0) & 0x20, 0);
        b = windows();
        C.due("the WINDOW of 57", b.about(16), 1);
        C.due("the WINDOW of 55", b.about(18), 2);
        C.due("the WINDOW of 3F", b.about(19), 3);
        b = received();
        C.due("the WINDOW of 60", b.about(17), 2);
        C.due("bytes received", b.about(12), 2);
        C.due("received, all sent, room, one lost", b.data(0xC0), 0xE8);
        C.due("sent", b.sent(), 1);
        b = asleep();
        C.due("it SLEEPS", b.about(2), 1);
        C.due("I is 0", b.about(21), 0);
        C.due("with I it would be one", b.data(0xC0) & b.data(0xC1), 0x20);
    }

    private static void unchanged(String what, int which, Act act) {
        int[] ahead = Readings.all(() -> madeFor(which));
        int[] behind = Readings.all(() -> {
            FlashBoard b = madeFor(which);
            act.on(b);
            return b;
        });
        Readings.same(C, what + ", board " + which, behind, ahead);
    }

    // ---- 1

    private static int[] asAtFirst() {
        int[] want = new int[Readings.ALL];
        want[0] = 0x600;
        want[20] = 1;
        want[Readings.DATA + 0x54] = 1;
        want[Readings.DATA + 0xC0] = 0x20;
        FlashBoard loader = new FlashBoard();
        for (int a = 0; a < 0x800; a++) want[Readings.WORD + a] = a >= 0x600 && a < 0x6B6 ? loader.word(a) : 0xFFFF;
        for (int k = 0; k < 256; k++) want[Readings.EEPROM + k] = 0xFF;
        for (int i = 0; i < 1001; i++) want[Readings.GOT + i] = -1;
        want[Readings.FUSES] = 31;
        return want;
    }

    private static void newObject() {
        goesOn();
        Readings.same(C, "a new object", Readings.all(FlashBoard::new), asAtFirst());
        FlashBoard other = busy();
        other.fuses(0);
        other.burn(0x600, 0, 0, 0, 0, 0);
        Readings.same(C, "beside another object", Readings.all(FlashBoard::new), asAtFirst());
    }

    // ---- 2 to 4

    private static void step() {
        FlashBoard b = new Code().nops(1).w(0x9508).board(0x7FF);
        C.due("the shortest", b.step(), 1);
        C.due("of 7FF, then 0", b.about(0), 0);
        b = new Code().z(0xF80).spm(3).board(BOOT_CODE);
        b.run(4);
        C.due("the longest", b.step(), 8001);
        C.due("cycles", b.about(3), 8005);
        C.due("steps", b.about(4), 5);
        b = asleep();
        C.due("asleep", b.step(), 1);
        b.put(0x5F, 0x80);
        C.due("an ENTRY", b.step(), 4);
        C.due("ENTRIES", b.about(5), 1);
    }

    private static void run() {
        FlashBoard b = new Code().stay().board(0);
        C.due("run 1", b.run(1), 2);
        C.due("steps", b.about(4), 1);
        C.due("run 5000", b.run(5000), 10000);
        C.due("steps", b.about(4), 5001);
        C.due("cycles", b.about(3), 10002);
        for (int n : FAR) refusedRun(b, n);
        for (int n : new int[] {0, 5001, 5002, 65536, Integer.MAX_VALUE}) refusedRun(b, n);
        C.due("no more steps", b.about(4), 5001);
        // STEPS of sleep, an ENTRY and a RESET by the watchdog are STEPS, too.
        b = asleep();
        C.due("asleep", b.run(5000), 5000);
        b.put(0x5F, 0x80);
        C.due("an ENTRY, and one nop", b.run(2), 5);
        b = new Code().ldi(24, 0x18).ldi(25, 8).sts(0x60, 24).sts(0x60, 25).w(0x9588).board(BOOT_CODE);
        b.fuses(15);
        C.due("run over a RESET", b.run(5000), 5002);
        C.due("one RESET", b.about(6), 1);
        C.due("5 steps, 4093 to the RESET, and nops from 0 on", b.about(0), 5000 - 5 - 4093);
    }

    private static void refusedRun(FlashBoard b, int n) {
        C.dueThrow("run " + n, IllegalArgumentException.class, () -> b.run(n));
    }

    private static void pass() {
        FlashBoard b = new Code().w(0x940C, 0).board(0);
        C.due("pass 1: one step", b.pass(1), 3);
        C.due("pass 3: one step", b.pass(3), 3);
        C.due("pass 4: two", b.pass(4), 6);
        C.due("pass 199998", b.pass(199998), 199998);
        C.due("pass 199999", b.pass(199999), 200001);
        C.due("pass 200000", b.pass(200000), 200001);
        C.due("cycles", b.about(3), 600012);
        C.due("steps", b.about(4), 200004);
        for (int n : FAR) refusedPass(b, n);
        for (int n : new int[] {0, 200001, 200002, 1 << 24, Integer.MAX_VALUE}) refusedPass(b, n);
        C.due("no more cycles", b.about(3), 600012);
        b = new Code().z(0xF80).spm(3).board(BOOT_CODE);
        C.due("the last step goes far beyond", b.pass(5), 8005);
        b = asleep();
        C.due("each cycle of sleep is a step", b.pass(200000), 200000);
        // A RESET ends its step, not the call.
        b = new Code().ldi(24, 0x18).ldi(25, 8).sts(0x60, 24).sts(0x60, 25).w(0x9588).board(BOOT_CODE);
        b.fuses(15);
        new Code().w(0x9588).burn(b, 0);
        C.due("pass over RESETS", b.pass(200000), 200000);
        C.due("RESETS: one of 4096 cycles, or of some less", b.about(6), 1 + (200000 - 4 - 4096) / 4096);
    }

    private static void refusedPass(FlashBoard b, int n) {
        C.dueThrow("pass " + n, IllegalArgumentException.class, () -> b.pass(n));
    }

    // ---- 5 to 7

    private static void host() {
        int[][] rows = {{0, 0}, {255, 255}, {256, 0}, {-1, 255}, {-256, 0}, {Integer.MIN_VALUE, 0}, {Integer.MAX_VALUE, 255},
            {0x12345678, 0x78}};
        for (int[] row : rows) {
            FlashBoard b = new Code().set(0xC1, 0x10).w(0x9588).board(0);
            C.due("the first", b.host(row[0]), 1);
            C.due("a second", b.host(~row[0]), 2);
            b.pass(400);
            C.due("lowest 8 bits of " + row[0], b.data(0xC6), row[1]);
        }
        FlashBoard b = new FlashBoard();
        for (int i = 1; i <= 300; i++) C.due("host", b.host(i), i);
        for (int i = 0; i < 3; i++) C.due("300 wait", b.host(-1), FlashBoard.NONE);
        C.due("300 yet", b.about(11), 300);
        b.power(false);
        C.due("300 without power", b.host(1), FlashBoard.NONE);
        b.power(true);
        C.due("300 behind a RESET", b.host(1), FlashBoard.NONE);
        new Code().set(0xC1, 0x10).w(0x9588).burn(b, BOOT_CODE);
        b.start(BOOT_CODE);
        b.step();
        C.due("one comes: there is room for one", b.host(0x55), 300);
        C.due("and for no more", b.host(0x56), FlashBoard.NONE);
        b.pass(170);
        C.due("the first of them", b.data(0xC6), 1);
    }

    private static void sentAndGot() {
        FlashBoard b = new Code().set(0xC1, 8).ldi(16, 0x80).sts(0xC6, 16).ldi(16, 0xFF).sts(0xC6, 16).w(0x9588).board(0);
        C.due("none", b.sent(), 0);
        for (int i : new int[] {0, 1, 999, 1000, 1001, Integer.MAX_VALUE}) refusedGot(b, i);
        b.run(20);
        C.due("one is sent, the host has it not yet", b.sent(), 0);
        refusedGot(b, 0);
        b.pass(160);
        C.due("one", b.sent(), 1);
        C.due("it", b.got(0), 0x80);
        refusedGot(b, 1);
        b.pass(200);
        C.due("two", b.sent(), 2);
        C.due("the other", b.got(1), 0xFF);
        C.due("the first yet", b.got(0), 0x80);
        for (int i : FAR) refusedGot(b, i);
        for (int i : new int[] {2, 3, 1000, Integer.MAX_VALUE}) refusedGot(b, i);
        b.reset();
        C.due("the host keeps what it had", b.sent(), 2);
        C.due("its bytes, too", b.got(1), 0xFF);
    }

    private static void refusedGot(FlashBoard b, int i) {
        C.dueThrow("got " + i, NoSuchElementException.class, () -> b.got(i));
    }

    // ---- 8, 9

    private static void burn() {
        FlashBoard b = new FlashBoard();
        for (int a : new int[] {0, 1, 0x5FA, 0x600, 0x7F0, 0x7F5, 0x7F6}) {
            C.due("burn " + Integer.toHexString(a), b.burn(a, 0x80007FFF, 0xFFFF0000, 0x0000FFFF, -2, Integer.MAX_VALUE), 10);
            int[] want = {0x8000, 0x7FFF, 0xFFFF, 0, 0, 0xFFFF, 0xFFFF, 0xFFFE, 0x7FFF, 0xFFFF};
            for (int i = 0; i < 10; i++) C.due("word", b.word(a + i), want[i]);
        }
        for (int there = 9; there >= 1; there--) {
            int a = 0x800 - there;
            int ahead = b.word(a - 1);
            C.due("burn " + Integer.toHexString(a), b.burn(a, 0x10001, 0x20002, 0x30003, 0x40004, 0x50005), there);
            for (int i = 0; i < there; i++) C.due("word", b.word(a + i), i / 2 + 1);
            C.due("the word ahead stays", b.word(a - 1), ahead);
        }
        C.due("word 0 stays", b.word(0), 0x8000);
        for (int a : FAR) refusedBurn(b, a);
        for (int a : new int[] {0x800, 0x801, 0x810, 0x8000, 65536, Integer.MAX_VALUE}) refusedBurn(b, a);
        // The host's words come whatever is locked or BUSY, and are done at once.
        b = busy();
        b.fuses(0);
        C.due("while it is BUSY, all locked", b.burn(0x60, 0x12345678, 0, 0, 0, 0), 10);
        C.due("word", b.word(0x61), 0x5678);
        b.burn(b.about(0), 0xE00AE11B, 0, 0, 0, 0);
        b.run(2);
        C.due("the next instruction", b.data(16), 0x0A);
        C.due("and the one behind it", b.data(17), 0x1B);
        C.due("BUSY goes on", b.about(7) > 0 ? 1 : 0, 1);
    }

    private static void refusedBurn(FlashBoard b, int a) {
        C.dueThrow("burn " + a, IndexOutOfBoundsException.class, () -> b.burn(a, 0, 0, 0, 0, 0));
    }

    private static void word() {
        FlashBoard b = busy();
        C.due("bit 6 of 57", b.data(0x57) & 0x40, 0x40);
        C.due("a word as it is", b.word(0x40), 0xFFFF);
        b.burn(0, 0xABCD0123, 0, 0, 0, 0);
        b.fuses(0);
        C.due("with bit 6, all locked", b.word(0), 0xABCD);
        C.due("the second", b.word(1), 0x0123);
        C.due("of the BOOT SECTION", b.word(0x600), 0xE004);
        C.due("the last", b.word(0x7FF), 0xFFFF);
        for (int a : FAR) refusedWord(b, a);
        for (int a : new int[] {0x800, 0x801, 0x1000, 65536, Integer.MAX_VALUE}) refusedWord(b, a);
    }

    private static void refusedWord(FlashBoard b, int a) {
        C.dueThrow("word " + a, IndexOutOfBoundsException.class, () -> b.word(a));
    }

    // ---- 10 to 12

    private static void data() {
        FlashBoard b = received();
        for (int i = 0; i < 3; i++) {
            C.due("C6", b.data(0xC6), 0xC1);
            C.due("nothing is taken", b.about(12), 2);
            C.due("lost stays 1", b.data(0xC0), 0xE8);
        }
        C.due("the last of RAM", b.data(0x4FF), 0);
        for (int a : FAR) refusedData(b, a);
        for (int a : new int[] {0x500, 0x501, 0x8FF, 65535, 65536, Integer.MAX_VALUE}) refusedData(b, a);
        b = new Code().set(0x24, 0xF0).set(0x25, 0x33).w(0x9588).board(0);
        b.run(6);
        b.pins(0x5A);
        C.due("23 as it would be LOADED", b.data(0x23), 0x3A);
        b.pins(0xFF);
        C.due("23 by other PINS", b.data(0x23), 0x3F);
    }

    private static void refusedData(FlashBoard b, int a) {
        C.dueThrow("data " + a, IndexOutOfBoundsException.class, () -> b.data(a));
    }

    private static boolean canBePut(int a) {
        return a >= 0 && a < 0x20 || a >= 0x5D && a <= 0x5F || a >= 0x100 && a < 0x500;
    }

    private static void put() {
        // Each address that may be: that byte, and no other.
        for (int from = 0; from < 0x500; from += 0x40) {
            FlashBoard b = new FlashBoard();
            for (int a = from; a < from + 0x40; a++) putAt(b, a);
        }
        for (int a : FAR) refusedPut(new FlashBoard(), a);
        for (int a : new int[] {0x500, 0x501, 0x55F, 0x1000, 65535, 65536, Integer.MAX_VALUE}) refusedPut(new FlashBoard(), a);
        int[][] rows = {{0, 0}, {255, 255}, {256, 0}, {-1, 255}, {Integer.MIN_VALUE, 0}, {Integer.MAX_VALUE, 255}, {0x1234, 0x34}};
        for (int a : new int[] {0, 31, 0x5D, 0x5E, 0x5F, 0x100, 0x4FF}) {
            FlashBoard b = new FlashBoard();
            for (int[] row : rows) {
                b.put(a, ~row[0]);
                b.put(a, row[0]);
                C.due("lowest 8 bits of " + row[0], b.data(a), row[1]);
            }
        }
        FlashBoard b = new FlashBoard();
        b.put(0x5D, 0x34);
        C.due("SP's low byte", b.about(1), 0x34);
        b.put(0x5E, 0x12);
        C.due("SP's high byte", b.about(1), 0x1234);
    }

    private static void putAt(FlashBoard b, int a) {
        if (!canBePut(a)) {
            refusedPut(b, a);
            return;
        }
        int low = a > 0 ? b.data(a - 1) : 0;
        int high = a < 0x4FF ? b.data(a + 1) : 0;
        b.put(a, a + 0x51);
        C.due("put " + Integer.toHexString(a), b.data(a), a + 0x51 & 255);
        if (a > 0) C.due("the byte ahead", b.data(a - 1), low);
        if (a < 0x4FF) C.due("the byte behind", b.data(a + 1), high);
    }

    private static void refusedPut(FlashBoard b, int a) {
        C.dueThrow("put " + a, IndexOutOfBoundsException.class, () -> {
            b.put(a, 1);
            return 0;
        });
    }

    private static void eeprom() {
        FlashBoard b = busy();
        C.due("a byte that is written yet", b.eeprom(0x66), 0x66);
        C.due("the first", b.eeprom(0), 0xFF);
        C.due("the last", b.eeprom(255), 0xFF);
        for (int k : FAR) refusedEeprom(b, k);
        for (int k : new int[] {256, 257, 511, 0x166, 65536, Integer.MAX_VALUE}) refusedEeprom(b, k);
    }

    private static void refusedEeprom(FlashBoard b, int k) {
        C.dueThrow("eeprom " + k, IndexOutOfBoundsException.class, () -> b.eeprom(k));
    }

    // ---- 13 to 15

    private static void pins() {
        FlashBoard b = new FlashBoard();
        int[][] rows = {{255, 255}, {0, 0}, {256, 0}, {-1, 255}, {0x1A5, 0xA5}, {Integer.MIN_VALUE, 0}, {Integer.MAX_VALUE, 255}};
        int were = 0;
        for (int[] row : rows) {
            C.due("what they were", b.pins(row[0]), were);
            were = row[1];
            C.due("PINS", b.data(0x23), were);
        }
        b.reset();
        C.due("they stay over a RESET", b.data(0x23), 255);
        b.power(false);
        C.due("without power", b.pins(0x81), 255);
        b.power(true);
        C.due("they stay over power", b.pins(0), 0x81);
    }

    private static void fuses() {
        FlashBoard b = new FlashBoard();
        int[][] rows = {{0, 0}, {31, 31}, {32, 0}, {-1, 31}, {16, 16}, {15, 15}, {0x1EA, 10}, {Integer.MIN_VALUE, 0},
            {Integer.MAX_VALUE, 31}};
        int were = 31;
        for (int[] row : rows) {
            C.due("what they were", b.fuses(row[0]), were);
            were = row[1];
        }
        C.due("the last", b.fuses(0), were);
        C.due("PC is by the next RESET", b.about(0), 0x600);
        b.reset();
        C.due("FUSE 0", b.about(0), 0);
        b.power(false);
        C.due("without power", b.fuses(0x13), 0);
        b.power(true);
        C.due("FUSE 1", b.about(0), 0x600);
        C.due("they stay over power", b.fuses(0x10), 0x13);
        // Bits of LOCKS that a STORE IN FLASH made 0 are 1 again, and are what an instruction sees.
        b = new Code().z(1).ldi(24, 9).out(0x57, 24).w(0x9114, 0x9588).board(BOOT_CODE);
        b.fuses(0x06);
        b.run(6);
        C.due("LOCKS as a BYTE OF FLASH", b.data(17), 0xF6);
    }

    private static void start() {
        FlashBoard b = asleep();
        for (int a : FAR) refusedStart(b, a);
        for (int a : new int[] {0x800, 0x801, 0xFFF, 65536, Integer.MAX_VALUE}) refusedStart(b, a);
        C.due("it SLEEPS yet", b.about(2), 1);
        b.start(0);
        C.due("the first", b.about(0), 0);
        C.due("it does not SLEEP", b.about(2), 0);
        b.start(0x7FF);
        C.due("the last", b.about(0), 0x7FF);
        C.due("nothing goes by", b.about(3), asleep().about(3));
        b = windows();
        b.start(0x123);
        C.due("the WINDOWS stay", b.about(16) * 100 + b.about(18) * 10 + b.about(19), 123);
        b.power(false);
        b.start(0x55);
        C.due("without power", b.about(0), 0x55);
        C.due("no step", b.step(), 0);
        b.power(true);
        C.due("FUSE was 0", b.about(0), 0);
    }

    private static void refusedStart(FlashBoard b, int a) {
        C.dueThrow("start " + a, IndexOutOfBoundsException.class, () -> {
            b.start(a);
            return 0;
        });
    }

    // ---- 16 to 18

    /** All of a board behind a RESET: by power with bit 0 of 54, else by the host with bit 1. */
    private static int[] behindReset(int[] ahead, boolean byPower) {
        int[] want = ahead.clone();
        for (int what : new int[] {2, 7, 8, 9, 10, 12, 13, 14, 15, 16, 17, 18, 19, 21}) want[what] = 0;
        for (int a = byPower ? 0 : 0x20; a < (byPower ? 0x500 : 0x100); a++) want[Readings.DATA + a] = 0;
        want[0] = ahead[Readings.FUSES] >= 16 ? 0x600 : 0;
        want[1] = 0;
        want[20] = 1;
        want[Readings.DATA + 0x23] = ahead[Readings.PINS];
        want[Readings.DATA + 0x54] = byPower ? 1 : ahead[Readings.DATA + 0x54] | 2;
        want[Readings.DATA + 0xC0] = 0x20;
        return want;
    }

    private static void reset() {
        for (int i = 0; i < MADE; i++) {
            int which = i;
            int[] ahead = Readings.all(() -> madeFor(which));
            int[] behind = Readings.all(() -> {
                FlashBoard b = madeFor(which);
                b.reset();
                return b;
            });
            Readings.same(C, "reset of board " + which, behind, behindReset(ahead, false));
        }
    }

    private static void power() {
        FlashBoard b = new FlashBoard();
        C.due("comes while it is on", b.power(true) ? 1 : 0, 1);
        C.due("goes", b.power(false) ? 1 : 0, 1);
        C.due("goes while it is off", b.power(false) ? 1 : 0, 0);
        C.due("off yet", b.about(20), 0);
        C.due("comes back", b.power(true) ? 1 : 0, 0);
        C.due("on", b.about(20), 1);
        C.due("comes while it is on", b.power(true) ? 1 : 0, 1);
        for (int which = 0; which < MADE; which++) unchanged("power(true) while it is on", which, x -> x.power(true));
    }

    private static void about() {
        FlashBoard b = busy();
        for (int what : FAR) refusedAbout(b, what);
        for (int what : new int[] {22, 23, 32, 255, 256, Integer.MAX_VALUE}) refusedAbout(b, what);
        C.due("the first", b.about(0), BOOT_CODE + 0x29);
        C.due("1", b.about(1), 0x3C5);
        C.due("7", b.about(7), 8000 - b.about(3) + cyclesToErase());
        C.due("8", b.about(8), 1);
        C.due("the last", b.about(21), 0);
        b = asleep();
        b.put(0x5F, 0x80);
        C.due("21: the interrupt that WAITS", b.about(21), 5);
        b.power(false);
        C.due("20 without power", b.about(20), 0);
    }

    /** How many cycles have gone by on busy() ahead of its ERASE. */
    private static int cyclesToErase() {
        FlashBoard b = busy();
        b.reset();
        b.start(BOOT_CODE);
        int cycles = 0;
        for (int i = 0; i < 60 && b.about(7) == 0; i++) cycles += b.step();
        return cycles - 1;
    }

    private static void refusedAbout(FlashBoard b, int what) {
        C.dueThrow("about " + what, NoSuchElementException.class, () -> b.about(what));
    }

    // ---- all of them

    /** Every refused call: it throws, and all is as it was. */
    private static void refusedChangeNothing() {
        for (int which = 0; which < MADE; which++) {
            unchanged("refused calls", which, b -> {
                refusedRun(b, 0);
                refusedRun(b, 5001);
                refusedPass(b, 0);
                refusedPass(b, 200001);
                refusedGot(b, -1);
                refusedGot(b, 1000);
                refusedBurn(b, -1);
                refusedBurn(b, 0x800);
                refusedWord(b, -1);
                refusedWord(b, 0x800);
                refusedData(b, -1);
                refusedData(b, 0x500);
                for (int a : new int[] {-1, 0x20, 0x57, 0x5C, 0x60, 0xFF, 0x500}) refusedPut(b, a);
                refusedEeprom(b, -1);
                refusedEeprom(b, 256);
                refusedStart(b, -1);
                refusedStart(b, 0x800);
                refusedAbout(b, -1);
                refusedAbout(b, 22);
            });
        }
        int[] full = Readings.all(() -> filled(0), 310);
        Readings.same(C, "bytes that the host has no room for", Readings.all(() -> filled(3), 310), full);
    }

    private static FlashBoard filled(int beyond) {
        FlashBoard b = new FlashBoard();
        for (int i = 0; i < 300 + beyond; i++) b.host(i);
        return b;
    }

    /** What is asked is not changed by that it is asked. */
    private static void readingChangesNothing() {
        for (int which = 0; which < MADE; which++) {
            unchanged("asked", which, b -> {
                for (int what = 0; what < 22; what++) b.about(what);
                for (int a : new int[] {0x23, 0x35, 0x3F, 0x57, 0x60, 0xC0, 0xC6, 0xC6, 0x4FF}) b.data(a);
                b.word(0);
                b.eeprom(0x66);
                b.sent();
                int pins = b.pins(0);
                C.due("pins, back again", b.pins(pins), 0);
                int fuses = b.fuses(0);
                C.due("fuses, back again", b.fuses(fuses), 0);
            });
        }
    }

    /** step, run, pass answer 0 and reset does nothing; only about(20) is another. */
    private static void withoutPowerNothingGoesBy() {
        for (int i = 0; i < MADE; i++) {
            int which = i;
            int[] want = Readings.all(() -> madeFor(which));
            want[20] = 0;
            int[] got = Readings.all(() -> {
                FlashBoard b = madeFor(which);
                C.due("it was on", b.power(false) ? 1 : 0, 1);
                C.due("step", b.step(), 0);
                C.due("run 1", b.run(1), 0);
                C.due("run 5000", b.run(5000), 0);
                C.due("pass 1", b.pass(1), 0);
                C.due("pass 200000", b.pass(200000), 0);
                b.reset();
                C.due("it was off", b.power(false) ? 1 : 0, 0);
                return b;
            });
            Readings.same(C, "without power, board " + which, got, want);
        }
    }

    /** All calls that ask for no power do the same without it; wrong inputs are refused all the same. */
    private static void callsWithoutPower() {
        FlashBoard b = received();
        b.power(false);
        C.due("sent", b.sent(), 1);
        C.due("got", b.got(0), 0x18);
        C.due("burn", b.burn(0x7FE, 0x00120034, 0, 0, 0, 0), 2);
        C.due("word", b.word(0x7FE) << 16 | b.word(0x7FF), 0x00120034);
        C.due("data", b.data(0xC6), 0xC1);
        b.put(0x100, 0x1FE);
        C.due("put", b.data(0x100), 0xFE);
        b.put(0x5F, 0x80);
        C.due("what WAITS", b.about(21), 0);
        C.due("eeprom", b.eeprom(9), 0xFF);
        C.due("pins", b.pins(7), 0);
        C.due("fuses", b.fuses(0), 31);
        b.start(0x7FE);
        C.due("start", b.about(0), 0x7FE);
        for (int i = b.about(11); i < 300; i++) C.due("host", b.host(i), i + 1);
        C.due("host, full", b.host(1), FlashBoard.NONE);
        refusedRun(b, 0);
        refusedRun(b, 5001);
        refusedPass(b, 0);
        refusedPass(b, 200001);
        refusedGot(b, 1);
        refusedBurn(b, 0x800);
        refusedWord(b, -1);
        refusedData(b, 0x500);
        refusedPut(b, 0x60);
        refusedEeprom(b, 256);
        refusedStart(b, 0x800);
        refusedAbout(b, 22);
    }

    private static void powerComesBack() {
        for (int i = 0; i < MADE; i++) {
            int which = i;
            int[] ahead = Readings.all(() -> madeFor(which));
            int[] behind = Readings.all(() -> {
                FlashBoard b = madeFor(which);
                b.power(false);
                b.run(7);
                b.power(true);
                return b;
            });
            Readings.same(C, "power again, board " + which, behind, behindReset(ahead, true));
        }
    }
}
