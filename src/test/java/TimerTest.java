/** The timer: its PRESCALER, ticks, turns and flags; the port; register 55. */
public final class TimerTest {
    private static final Checks C = new Checks();

    public static void main(String[] args) {
        prescaler();
        clocks();
        overflow();
        compare();
        flags();
        port();
        vectors();
        C.end();
    }

    private static void prescaler() {
        FlashBoard b = new Code().nops(3).stay().board(0);
        b.run(3);
        C.due("PRESCALER", b.about(10), 3);
        b.pass(1020);
        C.due("PRESCALER near its end", b.about(10), 1023);
        b.pass(1);
        C.due("PRESCALER turns over", b.about(10), 1);
        C.due("no tick by 0", b.data(0x46), 0);
    }

    private static void clocks() {
        int[] each = {0, 1, 8, 64, 256, 1024, 0, 0};
        for (int clock = 0; clock < 16; clock++) {
            int cycles = each[clock & 7];
            // The clock is set within cycle 2; what ticks from then on is counted to cycle 5002.
            FlashBoard b = new Code().ldi(24, clock).out(0x45, 24).w(0x9588).board(0);
            b.run(3);
            b.pass(4999);
            C.due("45 holds", b.data(0x45), clock);
            C.due("ticks by clock " + clock, b.data(0x46), cycles == 0 ? 0 : cycles == 1 ? 5001 & 255 : 5002 / cycles & 255);
            C.due("PRESCALER", b.about(10), 5002 % 1024);
        }
    }

    private static void overflow() {
        FlashBoard b = new Code().ldi(24, 0xFE).out(0x46, 24).ldi(24, 0x80).out(0x47, 24).ldi(24, 1).out(0x45, 24).nops(9).board(0);
        b.run(6);
        C.due("a tick within the very cycle", b.data(0x46), 0xFF);
        C.due("no flag", b.data(0x35), 0);
        b.step();
        C.due("turned over", b.data(0x46), 0);
        C.due("bit 0", b.data(0x35), 1);
        b = new Code().ldi(24, 2).out(0x44, 24).ldi(24, 0xFF).out(0x46, 24).out(0x47, 24).ldi(24, 1).out(0x45, 24).nops(9).board(0);
        b.run(7);
        C.due("0 by the compare", b.data(0x46), 0);
        C.due("is no turn over", b.data(0x35), 0);
    }

    private static void compare() {
        for (int mode = 0; mode < 4; mode++) {
            FlashBoard b = new Code().ldi(24, mode).out(0x44, 24).ldi(24, 3).out(0x47, 24).ldi(24, 1).out(0x45, 24).nops(9).board(0);
            b.run(7);
            C.due("ahead of it", b.data(0x35), 0);
            C.due("count", b.data(0x46), 2);
            b.step();
            C.due("count is 47", b.data(0x46), 3);
            C.due("bit 1", b.data(0x35), 2);
            b.step();
            C.due("then, mode " + mode, b.data(0x46), (mode & 2) != 0 ? 0 : 4);
            b.step();
            C.due("and on", b.data(0x46), (mode & 2) != 0 ? 1 : 5);
        }
        FlashBoard b = new Code().ldi(24, 2).out(0x44, 24).ldi(24, 1).out(0x45, 24).nops(9).board(0);
        b.run(4);
        C.due("47 is 0: it stays 0", b.data(0x46), 0);
        C.due("and is 47", b.data(0x35), 2);
    }

    private static void flags() {
        // 46 runs from FF, so that bits 0 and 1 (47 is 0) are 1 at once.
        Code code = new Code().ldi(24, 0xFF).out(0x46, 24).ldi(25, 1).out(0x45, 25).out(0x45, 2);
        FlashBoard b = code.ldi(24, 0xFC).out(0x35, 24).ldi(24, 1).out(0x35, 24).ldi(24, 2).out(0x35, 24).board(0);
        b.run(5);
        C.due("both", b.data(0x35), 3);
        b.run(2);
        C.due("STORED 0s do nothing", b.data(0x35), 3);
        b.run(2);
        C.due("a STORED 1 makes bit 0 0", b.data(0x35), 2);
        b.run(2);
        C.due("and bit 1", b.data(0x35), 0);
        b = new Code().ldi(24, 0xFF).out(0x46, 24).ldi(25, 1).out(0x45, 25).out(0x45, 2).w(0x98A8, 0x9AA8, 0x98A9, 0x9AA9).board(0);
        b.run(6);
        C.due("CBI of 35 does nothing", b.data(0x35), 3);
        b.run(1);
        C.due("SBI of 35 is of that bit alone", b.data(0x35), 2);
        b.run(2);
        C.due("and of bit 1", b.data(0x35), 0);
    }

    private static void port() {
        FlashBoard b = new Code().ldi(24, 0xF0).out(0x24, 24).ldi(24, 0xA5).out(0x25, 24).in(20, 0x23).ldi(24, 0xFF).out(0x23, 24)
            .in(21, 0x23).w(0x991C, 0x9B1F).board(0);
        b.pins(0x3C);
        C.due("pins alone", b.data(0x23), 0x3C);
        b.run(4);
        C.due("pins and 25", b.data(0x23), 0xAC);
        b.run(1);
        C.due("LOADED", b.data(20), 0xAC);
        b.run(2);
        C.due("turned over", b.data(0x25), 0x5A);
        b.run(1);
        C.due("LOADED", b.data(21), 0x5C);
        C.due("SBIC of 1", b.step(), 1);
        C.due("SBIS of 0", b.step(), 1);
        C.due("24", b.data(0x24), 0xF0);
    }

    private static void vectors() {
        FlashBoard b = new Code().ldi(24, 1).ldi(25, 2).out(0x55, 25).out(0x55, 24).out(0x55, 25).board(0);
        b.run(3);
        C.due("without bit 0", b.data(0x55), 0);
        b.run(1);
        C.due("bit 0", b.data(0x55), 1);
        C.due("WINDOW", b.about(18), 3);
        b.run(1);
        C.due("bit 1 is STORED", b.data(0x55), 2);
        C.due("WINDOW is over", b.about(18), 0);
        b = new Code().ldi(24, 3).ldi(25, 2).out(0x55, 24).nops(2).out(0x55, 25).board(0);
        b.run(5);
        C.due("bit 1 is not STORED with bit 0", b.data(0x55), 1);
        C.due("WINDOW", b.about(18), 1);
        b.run(1);
        C.due("at the last cycle", b.data(0x55), 2);
        b = new Code().ldi(24, 1).ldi(25, 2).out(0x55, 24).nops(3).out(0x55, 25).board(0);
        b.run(5);
        C.due("bit 0 yet", b.data(0x55), 1);
        b.run(1);
        C.due("bit 0 is 0 at the end", b.data(0x55), 0);
        b.run(1);
        C.due("too late", b.data(0x55), 0);
        b = new Code().ldi(24, 1).out(0x55, 24).nops(2).out(0x55, 24).board(0);
        b.run(5);
        C.due("anew", b.about(18), 3);
    }
}
