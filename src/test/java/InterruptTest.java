/** Interrupts: which WAITS, its ENTRY, its VECTOR, sleep, and the step behind 9478 and RETI. */
public final class InterruptTest {
    private static final Checks C = new Checks();

    public static void main(String[] args) {
        timer();
        line();
        eepromAndFlash();
        watchdog();
        order();
        vectors();
        heldBack();
        sleep();
        pushStores();
        C.end();
    }

    /** Behind its words an I of 1, without a held step. */
    private static FlashBoard ready(Code code) {
        int steps = 0;
        FlashBoard b = code.w(0x9588).board(0x100);
        b.put(0x5E, 4);
        b.put(0x5D, 0xFF);
        while (b.about(2) == 0 && steps < 200) {
            b.step();
            steps++;
        }
        C.due("no interrupt without I", b.about(21), 0);
        b.put(0x5F, 0x80);
        return b;
    }

    private static void enters(String name, FlashBoard b, int n) {
        C.due(name + " WAITS", b.about(21), n);
        int entries = b.about(5);
        int pc = b.about(0);
        int sp = b.about(1);
        C.due(name + ": cycles", b.step(), 4);
        C.due(name + ": VECTOR", b.about(0), 2 * n);
        C.due(name + ": ENTRIES", b.about(5), entries + 1);
        C.due(name + ": SREG", b.data(0x5F), 0);
        C.due(name + ": it sleeps no more", b.about(2), 0);
        C.due(name + ": SP", b.about(1), sp - 2);
        C.due(name + ": low byte", b.data(sp), pc & 255);
        C.due(name + ": high byte", b.data(sp - 1), pc >> 8);
    }

    private static void timer() {
        for (int enables = 0; enables < 4; enables++) {
            FlashBoard b = ready(new Code().set(0x46, 0xFF).set(0x6E, enables).set(0x45, 1).set(0x45, 0));
            C.due("flags", b.data(0x35), 3);
            if (enables == 0) C.due("none", b.about(21), 0);
            if (enables == 0) continue;
            enters("timer, " + enables, b, (enables & 2) != 0 ? 2 : 3);
            C.due("its flag is 0", b.data(0x35), (enables & 2) != 0 ? 1 : 2);
        }
    }

    private static void line() {
        FlashBoard b = ready(new Code().set(0xC1, 0x28));
        enters("room", b, 5);
        C.due("room stays", b.data(0xC0), 0x20);
        b = ready(new Code().set(0xC1, 0x48).sts(0xC6, 20));
        C.due("not all sent", b.about(21), 0);
        b.pass(200);
        C.due("bit 6", b.data(0xC0), 0x20);
        b = new Code().set(0xC1, 0x48).sts(0xC6, 20).w(0x9588).board(0x100);
        b.put(0x5E, 4);
        b.pass(300);
        C.due("bit 6", b.data(0xC0), 0x60);
        b.put(0x5F, 0x80);
        enters("all sent", b, 6);
        C.due("bit 6 is 0 then", b.data(0xC0), 0x20);
        b = new Code().set(0xC1, 0x90).w(0x9588).board(0x100);
        b.put(0x5E, 4);
        b.host(5);
        b.pass(300);
        b.put(0x5F, 0x80);
        enters("received", b, 4);
        C.due("bit 7 stays", b.data(0xC0), 0xA0);
    }

    private static void eepromAndFlash() {
        FlashBoard b = ready(new Code().ldi(24, 8).out(0x3F, 24));
        enters("EEPROM", b, 7);
        C.due("3F", b.data(0x3F), 8);
        b = ready(new Code().ldi(24, 12).out(0x3F, 24).w(0x9AF9));
        C.due("while it writes", b.about(21), 0);
        b.pass(3500);
        C.due("behind that an ENTRY", b.about(5), 1);
        b = new Code().ldi(24, 0x80).out(0x57, 24).ldi(24, 0x81).out(0x57, 24).w(0x9588).board(0x100);
        b.put(0x5F, 0x80);
        b.put(0x5E, 4);
        b.run(2);
        C.due("57", b.data(0x57), 0x80);
        enters("flash", b, 8);
        C.due("bit 7 stays", b.data(0x57), 0x80);
        b.start(0x102);
        b.run(2);
        b.put(0x5F, 0x80);
        C.due("with bit 0 none WAITS", b.about(21), 0);
        b.run(3);
        C.due("the WINDOW's end", b.about(16), 0);
        C.due("now one WAITS", b.about(21), 8);
        b.run(1);
        C.due("ENTRIES", b.about(5), 2);
    }

    private static void watchdog() {
        for (int v : new int[] {0x40, 0x41, 0x48, 0x49}) {
            FlashBoard b = new Code().ldi(24, 0x18).ldi(25, v).sts(0x60, 24).sts(0x60, 25).w(0x9588).board(0x100);
            b.put(0x5E, 4);
            b.run(5);
            b.pass((v & 1) != 0 ? 8189 : 4093);
            b.put(0x5F, 0x80);
            enters("watchdog, " + v, b, 1);
            C.due("60", b.data(0x60), (v & 8) == 0 ? v : v & 0xF);
        }
    }

    private static void order() {
        // All of 2, 3, 5, 7, 8 at once: they come by their numbers.
        Code code = new Code().set(0x46, 0xFF).set(0x6E, 3).set(0x45, 1).set(0x45, 0).set(0xC1, 0x28);
        FlashBoard b = ready(code.ldi(24, 8).out(0x3F, 24).ldi(24, 0x80).out(0x57, 24));
        int[] due = {2, 3, 5, 5};
        for (int n : due) {
            enters("in order", b, n);
            b.put(0x5F, 0x80);
        }
    }

    private static void vectors() {
        FlashBoard b = ready(new Code().ldi(24, 1).ldi(25, 2).out(0x55, 24).out(0x55, 25).set(0xC1, 0x20));
        b.step();
        C.due("VECTOR of the BOOT SECTION", b.about(0), 0x60A);
    }

    private static void heldBack() {
        Code code = new Code().set(0xC1, 0x20).w(0x9478, 0x9478, 0x0000, 0x0000);
        FlashBoard b = code.board(0x100);
        b.put(0x5E, 4);
        b.run(3);
        C.due("WAITS behind 9478", b.about(21), 5);
        b.step();
        C.due("but an instruction comes", b.about(0), 0x105);
        b.step();
        C.due("and behind another 9478", b.about(0), 0x106);
        C.due("then the ENTRY", b.step(), 4);
        C.due("PC", b.about(0), 10);
        // RETI: one instruction, then the next ENTRY.
        new Code().w(0x9518).burn(b, 10);
        C.due("RETI", b.step(), 4);
        C.due("back", b.about(0), 0x106);
        b.step();
        C.due("an instruction", b.about(0), 0x107);
        b.step();
        C.due("the ENTRY", b.about(0), 10);
        C.due("ENTRIES", b.about(5), 2);
        // I by another store is not held back.
        b = new Code().set(0xC1, 0x20).ldi(24, 0x80).out(0x5F, 24).nops(3).board(0x100);
        b.run(4);
        b.step();
        C.due("at once", b.about(5), 1);
    }

    private static void sleep() {
        FlashBoard b = new Code().set(0xC1, 0x10).w(0x9478, 0x9588, 0x0000).board(0x100);
        b.put(0x5E, 4);
        b.run(4);
        C.due("sleeps", b.about(2), 1);
        C.due("a cycle", b.run(20), 20);
        C.due("PC rests", b.about(0), 0x104 + 1);
        C.due("steps are counted", b.about(4), 24);
        b = new Code().set(0xC1, 0x20).w(0x9478, 0x9588, 0x0000).board(0x100);
        b.put(0x5E, 4);
        b.run(4);
        C.due("sleeps though one WAITS", b.about(2), 1);
        C.due("the ENTRY wakes it", b.step(), 4);
        C.due("sleeps no more", b.about(2), 0);
        C.due("pushed: behind the sleep", b.data(0x400), 5);
        b = new Code().set(0xC1, 0x20).w(0x9588, 0x0000).board(0x100);
        b.run(40);
        C.due("without I it sleeps on", b.about(2), 1);
    }

    private static void pushStores() {
        // The PUSH reads the EEPROM by 3F: still 4 cycles; its data are there.
        FlashBoard b = new Code().ldi(24, 8).out(0x3F, 24).ldi(24, 0x80).out(0x5F, 24).board(0x100);
        b.put(0x5D, 0x3F);
        b.run(4);
        C.due("PC", b.about(0), 0x104);
        b = new Code().set(0xC1, 0x20).nops(3).board(0x101);
        b.put(0x5D, 0x3F);
        b.run(2);
        b.start(0x101 + 4);
        b.put(0x5F, 0x80);
        C.due("4 cycles whatever is STORED", b.step(), 4);
        C.due("40 was read", b.data(0x40), 0xFF);
        // The PUSH into SREG, and then I is 0.
        b = new Code().set(0xC1, 0x20).nops(3).board(0x140);
        b.put(0x5D, 0x5F);
        b.run(2);
        b.start(0x1C3);
        b.put(0x5F, 0x80);
        b.step();
        C.due("SREG", b.data(0x5F), 0x43);
        C.due("PC", b.about(0), 10);
    }
}
