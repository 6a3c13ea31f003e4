/** The watchdog: register 60, its PERIOD, its flag and its RESETs; register 54. */
public final class WatchdogTest {
    private static final Checks C = new Checks();

    public static void main(String[] args) {
        store();
        window();
        count();
        periods();
        interrupt();
        resets();
        causes();
        restOfCycles();
        C.end();
    }

    /** 60 becomes a byte by a change: 18 first. Six cycles. */
    private static Code changed(int v) {
        return new Code().ldi(24, 0x18).ldi(25, v).sts(0x60, 24).sts(0x60, 25);
    }

    private static void store() {
        FlashBoard b = new Code().ldi(24, 0x2F).sts(0x60, 24).ldi(24, 0x6F).sts(0x60, 24).ldi(24, 0).sts(0x60, 24).board(0);
        b.run(2);
        C.due("nothing without a change", b.data(0x60), 0);
        b.run(2);
        C.due("bit 6 is STORED", b.data(0x60), 0x40);
        b.run(2);
        C.due("and as 0", b.data(0x60), 0);
        for (int v = 0; v < 256; v++) {
            b = changed(v).board(0);
            b.run(4);
            boolean again = (v & 0x10) != 0;
            boolean anew = again && (v & 8) != 0;
            // With bit 4, but not 3, the WINDOW goes on, and ends within this STORE's two cycles.
            int want = again ? v & 0x40 | (anew ? 0x10 : 0) : v & 0x6F;
            C.due("60 by " + v, b.data(0x60), want);
            C.due("WINDOW by " + v, b.about(17), anew ? 2 : 0);
        }
    }

    private static void window() {
        FlashBoard b = new Code().ldi(24, 0x10).sts(0x60, 24).ldi(24, 0x18).sts(0x60, 24).nops(9).board(0);
        b.run(2);
        C.due("bit 4 needs bit 3", b.data(0x60), 0);
        b.run(2);
        C.due("bit 4", b.data(0x60), 0x10);
        C.due("WINDOW", b.about(17), 2);
        b.run(1);
        C.due("WINDOW", b.about(17), 1);
        b.run(1);
        C.due("bit 4 is 0 at its end", b.data(0x60), 0);
        for (int nops = 0; nops < 4; nops++) {
            b = new Code().ldi(24, 0x18).ldi(25, 9).sts(0x60, 24).nops(nops).sts(0x60, 25).board(0);
            b.run(4 + nops);
            C.due("behind " + nops, b.data(0x60), nops < 2 ? 9 : 0);
        }
    }

    private static void count() {
        FlashBoard b = changed(0x0F).w(0x95A8).nops(3).board(0);
        b.run(3);
        C.due("no COUNT yet", b.about(9), 0);
        b.run(1);
        C.due("COUNT", b.about(9), 2);
        b.run(1);
        C.due("COUNT is 0, then a cycle", b.about(9), 1);
        b.run(3);
        C.due("COUNT", b.about(9), 4);
        b = changed(0x40).sts(0x60, 2).nops(1).board(0);
        b.run(4);
        C.due("COUNT by bit 6", b.about(9), 2);
        b.run(1);
        C.due("else it is 0", b.about(9), 0);
    }

    private static void periods() {
        for (int period = 0; period < 16; period++) {
            int v = 0x08 | period & 7 | (period & 8) << 2;
            FlashBoard b = changed(v).w(0x9588).board(0);
            b.run(5);
            C.due("COUNT", b.about(9), 3);
            int due = 4096 << Math.min(period, 11);
            if (due > 3000000 && period < 14) continue;
            int gone = 3;
            while (due - 1 - gone > 0) gone += b.pass(Math.min(200000, due - 1 - gone));
            C.due("COUNT ahead of the RESET", b.about(9), due - 1);
            C.due("no RESET yet", b.about(6), 0);
            b.step();
            C.due("RESET of period " + period, b.about(6), 1);
            C.due("COUNT is 0", b.about(9), 0);
            C.due("PC", b.about(0), 0x600);
        }
    }

    private static void interrupt() {
        FlashBoard b = changed(0x40).w(0x9588).board(0);
        b.run(5);
        b.pass(4092);
        C.due("no flag yet", b.data(0x60), 0x40);
        b.step();
        C.due("the flag", b.data(0x60), 0xC0);
        C.due("COUNT", b.about(9), 0);
        C.due("no RESET", b.about(6), 0);
        C.due("I is 0", b.about(21), 0);
        b.pass(4096);
        C.due("the flag again, no RESET", b.about(6), 0);
        b.put(0x5F, 0x80);
        C.due("WAITS", b.about(21), 1);
        // Bits 3 and 6: the flag first, then (behind the ENTRY, bit 6 being 0) a RESET.
        b = changed(0x48).w(0x9478, 0x9588).board(0x100);
        new Code().w(0x9588).burn(b, 2);
        b.run(6);
        b.pass(4092);
        C.due("the flag", b.data(0x60), 0xC8);
        C.due("ENTRY", b.step(), 4);
        C.due("bits 7, 6 are 0", b.data(0x60), 8);
        C.due("PC", b.about(0), 2);
        b.pass(4092);
        C.due("a RESET then", b.about(6), 1);
        // A STORED 1 makes the flag 0, a STORED 0 leaves it.
        b = changed(0x40).stay().board(0);
        new Code().ldi(24, 0x40).ldi(25, 0xC0).sts(0x60, 24).sts(0x60, 25).burn(b, 0x100);
        b.run(4);
        b.pass(4096);
        b.start(0x100);
        b.run(3);
        C.due("the flag stays", b.data(0x60), 0xC0);
        b.run(1);
        C.due("the flag is 0", b.data(0x60), 0x40);
    }

    private static void resets() {
        FlashBoard b = changed(0x0B).set(0x24, 1).w(0x9588).board(0);
        b.put(3, 4);
        b.put(0x123, 5);
        b.fuses(15);
        b.run(7);
        b.pass(200000);
        C.due("RESETs", b.about(6) >= 1 ? 1 : 0, 1);
        C.due("54", b.data(0x54), 9);
        C.due("R3", b.data(3), 4);
        C.due("RAM", b.data(0x123), 5);
        b = changed(0x0B).set(0x24, 1).w(0x9588).board(0);
        b.fuses(15);
        b.run(7);
        b.pass(32768 - 7);
        C.due("no RESET yet", b.about(6), 0);
        b.step();
        C.due("one RESET", b.about(6), 1);
        C.due("PC is 0 without FUSE", b.about(0), 0);
        C.due("24", b.data(0x24), 0);
        C.due("bit 3 of 60 is 1", b.data(0x60), 8);
        C.due("it does not sleep", b.about(2), 0);
    }

    private static void causes() {
        // Behind a watchdog's RESET at 200, so that 54 is 9.
        FlashBoard b = changed(8).w(0x9588).board(0);
        b.run(5);
        b.pass(4093);
        C.due("54", b.data(0x54), 9);
        C.due("60", b.data(0x60), 8);
        Code code = changed(0x06).ldi(24, 0xF7).ldi(25, 0xFE).out(0x54, 25).out(0x54, 24).w(0x930F, 0x930F);
        code.ldi(24, 0x18).ldi(25, 1).sts(0x60, 24).sts(0x60, 25).ldi(24, 0xFF).out(0x54, 24);
        code.burn(b, 0x200);
        b.start(0x200);
        b.run(4);
        C.due("bit 3 is STORED as 1", b.data(0x60), 0x0E);
        b.reset();
        C.due("54 by the host", b.data(0x54), 0x0B);
        C.due("bit 3 at that RESET", b.data(0x60), 8);
        b.start(0x200);
        b.run(7);
        C.due("a STORED 0 makes bit 0 0", b.data(0x54), 0x0A);
        b.run(1);
        C.due("and bit 3", b.data(0x54), 0x02);
        b.run(6);
        C.due("now bit 3 of 60 is STORED", b.data(0x60), 1);
        b.run(2);
        C.due("1s do nothing in 54", b.data(0x54), 2);
        b.reset();
        C.due("60 at a RESET", b.data(0x60), 0);
    }

    private static void restOfCycles() {
        // COUNT 4095 when a CALL begins: its first cycle brings the RESET.
        FlashBoard c = new FlashBoard();
        changed(8).burn(c, 0x700);
        new Code().w(0x9588).burn(c, 0x706);
        new Code().w(0x940E, 0x0300).burn(c, 0x710);
        c.start(0x700);
        c.run(5);
        c.pass(4092);
        C.due("COUNT", c.about(9), 4095);
        c.start(0x710);
        int cycles = c.about(3);
        C.due("the rest is left out", c.step(), 1);
        C.due("cycles", c.about(3), cycles + 1);
        C.due("PC", c.about(0), 0x600);
        C.due("RESETs", c.about(6), 1);
        C.due("steps", c.about(4), 5 + 4092 + 1);
        // A page of the BOOT SECTION takes 8001 cycles, within which the RESET comes.
        FlashBoard d = changed(8).z(0xFC0).spm(3).board(0x700);
        d.run(8);
        int count = d.about(9);
        C.due("RESET within 8001", d.step(), 4096 - count);
        C.due("erased all the same", d.about(6), 1);
    }
}
