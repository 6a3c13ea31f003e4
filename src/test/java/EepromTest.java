/** The EEPROM: writing, reading, its WINDOW, and what it holds while it writes. */
public final class EepromTest {
    private static final Checks C = new Checks();

    public static void main(String[] args) {
        write();
        window();
        read();
        whileWriting();
        bits();
        C.end();
    }

    /** The byte at an address, by way of R24, R25; then a store of 4 and one of 2. */
    private static Code writing(int address, int v) {
        return new Code().ldi(24, address).out(0x41, 24).ldi(25, v).out(0x40, 25).w(0x9AFA);
    }

    private static void write() {
        FlashBoard b = writing(0xC3, 0x5A).w(0x9AF9).stay().board(0);
        b.run(5);
        C.due("bit 2", b.data(0x3F), 4);
        C.due("WINDOW", b.about(19), 2);
        C.due("SBI takes two", b.step(), 2);
        C.due("the byte", b.eeprom(0xC3), 0x5A);
        C.due("its neighbour", b.eeprom(0xC4), 0xFF);
        C.due("3F", b.data(0x3F), 2);
        C.due("cycles yet", b.about(15), 3398);
        C.due("WINDOW is over", b.about(19), 0);
        b.pass(3396);
        C.due("cycles yet", b.about(15), 2);
        C.due("3F yet", b.data(0x3F), 2);
        b.pass(2);
        C.due("3F at the end", b.data(0x3F), 0);
        C.due("none yet", b.about(15), 0);
        b.power(false);
        b.power(true);
        C.due("it stays", b.eeprom(0xC3), 0x5A);
    }

    private static void window() {
        for (int nops = 0; nops < 4; nops++) {
            FlashBoard b = writing(1, 2).nops(nops).w(0x9AF9).board(0);
            b.run(6 + nops);
            C.due("WINDOW with " + nops, b.eeprom(1), nops < 2 ? 2 : 0xFF);
        }
        FlashBoard b = new Code().ldi(24, 6).out(0x3F, 24).board(0);
        b.run(2);
        C.due("bit 2 was not 1 ahead", b.data(0x3F), 4);
        C.due("WINDOW", b.about(19), 3);
        b = new Code().ldi(24, 6).out(0x3F, 24).nops(2).out(0x3F, 24).board(0);
        b.run(5);
        C.due("by the second of these", b.data(0x3F), 2);
        C.due("WINDOW", b.about(19), 0);
        b = new Code().ldi(24, 4).ldi(25, 0).out(0x3F, 24).out(0x3F, 25).board(0);
        b.run(4);
        C.due("a 0 at bit 2 does nothing", b.data(0x3F), 4);
        C.due("WINDOW", b.about(19), 2);
        b = new Code().ldi(24, 4).out(0x3F, 24).nops(2).out(0x3F, 24).board(0);
        b.run(5);
        C.due("anew", b.about(19), 3);
    }

    private static void read() {
        FlashBoard b = new Code().ldi(24, 7).out(0x41, 24).w(0x9AF8).in(20, 0x40).ldi(24, 1).sts(0x3F, 24).out(0x3F, 24)
            .ldi(24, 5).out(0x3F, 24).board(0);
        b.run(2);
        C.due("SBI and 4 more", b.step(), 6);
        C.due("40", b.data(0x40), 0xFF);
        C.due("bit 0 is LOADED as 0", b.data(0x3F), 0);
        b.run(2);
        C.due("R20", b.data(20), 0xFF);
        C.due("STS and 4 more", b.step(), 6);
        C.due("OUT and 4 more", b.step(), 5);
        b.run(1);
        C.due("with a WINDOW", b.step(), 5);
        C.due("the WINDOW has gone by", b.data(0x3F), 0);
        Code push = new Code().ldi(24, 1).w(0x938F);
        b = push.board(0);
        b.put(0x5D, 0x3F);
        b.run(1);
        C.due("PUSH and 4 more", b.step(), 6);
    }

    private static void whileWriting() {
        FlashBoard b = writing(9, 0x11).w(0x9AF9).ldi(24, 8).out(0x41, 24).ldi(25, 0x22).out(0x40, 25).ldi(24, 0x0F)
            .out(0x3F, 24).ldi(24, 1).out(0x3F, 24).board(0);
        b.run(10);
        C.due("41 holds still", b.data(0x41), 9);
        C.due("40 holds still", b.data(0x40), 0x11);
        b.run(1);
        C.due("no reading either", b.step(), 1);
        C.due("bits 3, 2 are taken", b.data(0x3F), 0x0E);
        int left = b.about(15);
        b.run(1);
        C.due("no reading", b.step(), 1);
        C.due("it goes on", b.about(15), left - 2);
        b.reset();
        C.due("a RESET ends it", b.about(15), 0);
        C.due("3F", b.data(0x3F), 0);
        C.due("the byte is there", b.eeprom(9), 0x11);
    }

    private static void bits() {
        FlashBoard b = new Code().ldi(24, 0xF8).out(0x3F, 24).ldi(24, 0).out(0x3F, 24).board(0);
        b.run(2);
        C.due("bit 3 alone", b.data(0x3F), 8);
        b.run(2);
        C.due("bit 3 is STORED", b.data(0x3F), 0);
        // The byte that is written at once and the byte that is read are of one STORE: then it only writes.
        b = writing(3, 0x33).ldi(24, 3).out(0x3F, 24).board(0);
        b.run(6);
        C.due("writes, and does not read", b.step(), 1);
        C.due("written", b.eeprom(3), 0x33);
    }
}
