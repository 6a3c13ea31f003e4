import java.util.NoSuchElementException;

/** The face: each call's ordinary answers, its edges, and its wrong inputs. */
public final class FaceTest {
    private static final Checks C = new Checks();

    public static void main(String[] args) {
        newObject();
        step();
        run();
        pass();
        host();
        sentAndGot();
        burnAndWord();
        data();
        put();
        eeprom();
        pinsAndFuses();
        start();
        reset();
        power();
        about();
        C.end();
    }

    private static void newObject() {
        C.due("NONE", FlashBoard.NONE, -1);
        int[] all = Readings.all(FlashBoard::new);
        for (int a = 0; a < 0x500; a++) C.due("new data " + a, all[Readings.DATA + a], a == 0xC0 ? 0x20 : a == 0x54 ? 1 : 0);
        for (int a = 0; a < 0x600; a++) C.due("new word " + a, all[Readings.WORD + a], 0xFFFF);
        for (int a = 0x6B6; a < 0x800; a++) C.due("new word " + a, all[Readings.WORD + a], 0xFFFF);
        for (int k = 0; k < 256; k++) C.due("new eeprom " + k, all[Readings.EEPROM + k], 0xFF);
        FlashBoard b = new FlashBoard();
        C.due("first word of the loader", b.word(0x600), 0xE004);
        C.due("last word of the loader", b.word(0x6B5), 0xCF54);
        for (int i = 0; i <= 21; i++) C.due("new about " + i, b.about(i), i == 0 ? 0x600 : i == 20 ? 1 : 0);
        C.due("new sent", b.sent(), 0);
        C.due("new pins", b.pins(0), 0);
        C.due("new fuses", b.fuses(31), 31);
        C.due("new power", b.power(true) ? 1 : 0, 1);
    }

    private static void step() {
        FlashBoard b = new Code().nops(1).sts(0x100, 0).w(0x940E, 0x0200).board(0);
        C.due("one cycle", b.step(), 1);
        C.due("two cycles", b.step(), 2);
        C.due("four cycles", b.step(), 4);
        C.due("cycles", b.about(3), 7);
        C.due("steps", b.about(4), 3);
        C.due("PC", b.about(0), 0x200);
        b.power(false);
        C.due("step without power", b.step(), 0);
        C.due("cycles without power", b.about(3), 7);
        C.due("steps without power", b.about(4), 3);
    }

    private static void run() {
        FlashBoard b = new Code().stay().board(0);
        C.due("run(1)", b.run(1), 2);
        C.due("run(5000)", b.run(5000), 10000);
        C.due("steps", b.about(4), 5001);
        for (int n : new int[] {0, -1, 5001, Integer.MIN_VALUE, Integer.MAX_VALUE}) {
            C.dueThrow("run " + n, IllegalArgumentException.class, () -> b.run(n));
        }
        C.due("nothing of that", b.about(4), 5001);
        b.power(false);
        C.due("run without power", b.run(7), 0);
        C.dueThrow("run 0 without power", IllegalArgumentException.class, () -> b.run(0));
    }

    private static void pass() {
        FlashBoard b = new Code().w(0x940C, 0).board(0);
        C.due("pass(1)", b.pass(1), 3);
        C.due("pass(3)", b.pass(3), 3);
        C.due("pass(4)", b.pass(4), 6);
        C.due("pass(200000)", b.pass(200000), 200001);
        C.due("cycles", b.about(3), 200013);
        for (int n : new int[] {0, -1, 200001, Integer.MIN_VALUE, Integer.MAX_VALUE}) {
            C.dueThrow("pass " + n, IllegalArgumentException.class, () -> b.pass(n));
        }
        b.power(false);
        C.due("pass without power", b.pass(7), 0);
        C.dueThrow("pass 0 without power", IllegalArgumentException.class, () -> b.pass(0));
    }

    private static void host() {
        FlashBoard b = new Code().set(0xC1, 0x10).lds(0, 0xC0).w(0xFE07, 0xCFFC).lds(1, 0xC6).stay().board(0);
        C.due("host", b.host(0xABCD), 1);
        for (int i = 2; i <= 300; i++) C.due("host", b.host(i), i);
        C.due("host full", b.host(5), FlashBoard.NONE);
        C.due("waiting", b.about(11), 300);
        b.step();
        C.due("one comes", b.about(11), 299);
        C.due("host again", b.host(5), 300);
        b.pass(400);
        C.due("lowest 8 bits", b.data(1), 0xCD);
        b.power(false);
        C.due("host without power", b.host(6), b.about(11));
    }

    private static void sentAndGot() {
        // R16 counts; it is sent whenever there is room, as fast as can be.
        Code code = new Code().set(0xC0, 2).set(0xC1, 8).lds(0, 0xC0).w(0xFE05, 0xCFFC).sts(0xC6, 16).w(0x9503, 0xCFF8);
        FlashBoard b = code.board(0);
        C.dueThrow("got(0) of none", NoSuchElementException.class, () -> b.got(0));
        b.pass(250);
        int sent = b.sent();
        C.due("some are sent", sent, 2);
        C.due("got(1)", b.got(1), 1);
        C.dueThrow("got of the next", NoSuchElementException.class, () -> b.got(2));
        C.dueThrow("got(-1)", NoSuchElementException.class, () -> b.got(-1));
        C.dueThrow("got(least)", NoSuchElementException.class, () -> b.got(Integer.MIN_VALUE));
        b.pass(100000);
        C.due("more than a thousand", b.sent() > 1000 ? 1 : 0, 1);
        for (int i = 0; i < 1000; i += 3) C.due("got " + i, b.got(i), i & 255);
        C.dueThrow("got(1000)", NoSuchElementException.class, () -> b.got(1000));
        C.dueThrow("got(1001)", NoSuchElementException.class, () -> b.got(1001));
        int before = b.sent();
        b.power(false);
        b.power(true);
        C.due("the host keeps what it had", b.sent(), before);
        C.due("and the bytes", b.got(999), 999 & 255);
    }

    private static void burnAndWord() {
        FlashBoard b = new FlashBoard();
        C.due("burn", b.burn(0, 0x00010002, 0x00030004, 0x80000005, 0xFFFF0000, 0x00090008), 10);
        int[] want = {1, 2, 3, 4, 0x8000, 5, 0xFFFF, 0, 9, 8, 0xFFFF};
        for (int i = 0; i < want.length; i++) C.due("word " + i, b.word(i), want[i]);
        C.due("burn 7F6", b.burn(0x7F6, 0, 0, 0, 0, 0x00010002), 10);
        C.due("word 7FF", b.word(0x7FF), 2);
        C.due("burn 7F7", b.burn(0x7F7, 0x00110012, 0x00130014, 0x00150016, 0x00170018, 0x0019001A), 9);
        C.due("word 7FF", b.word(0x7FF), 0x19);
        C.due("burn 7FF", b.burn(0x7FF, 0x12345678, 0, 0, 0, 0), 1);
        C.due("word 7FF", b.word(0x7FF), 0x1234);
        C.due("word 0 stays", b.word(0), 1);
        for (int a : new int[] {-1, 0x800, Integer.MIN_VALUE, Integer.MAX_VALUE}) {
            C.dueThrow("burn " + a, IndexOutOfBoundsException.class, () -> b.burn(a, 1, 2, 3, 4, 5));
            C.dueThrow("word " + a, IndexOutOfBoundsException.class, () -> b.word(a));
        }
        b.power(false);
        C.due("burn without power", b.burn(5, 0x00070007, 0, 0, 0, 0), 10);
        C.due("word without power", b.word(5), 7);
    }

    private static void data() {
        FlashBoard b = new Code().set(0xC1, 0x10).stay().board(0);
        b.host(0x77);
        b.host(0x78);
        b.host(0x79);
        b.pass(600);
        C.due("received, lost", b.data(0xC0), 0xA8);
        C.due("C6", b.data(0xC6), 0x77);
        C.due("C6, not taken", b.data(0xC6), 0x77);
        C.due("two wait", b.about(12), 2);
        C.due("lost stays", b.data(0xC0), 0xA8);
        C.due("last address", b.data(0x4FF), 0);
        for (int a : new int[] {-1, 0x500, Integer.MIN_VALUE, Integer.MAX_VALUE}) {
            C.dueThrow("data " + a, IndexOutOfBoundsException.class, () -> b.data(a));
        }
    }

    private static void put() {
        for (int a = -2; a < 0x503; a++) {
            FlashBoard b = new FlashBoard();
            int address = a;
            boolean may = a >= 0 && a < 0x20 || a >= 0x5D && a <= 0x5F || a >= 0x100 && a < 0x500;
            if (may) {
                b.put(a, 0xFFFFFF00 | a * 7);
                C.due("put " + a, b.data(a), a * 7 & 255);
            } else {
                C.dueThrow("put " + a, IndexOutOfBoundsException.class, () -> {
                    b.put(address, 1);
                    return 0;
                });
            }
        }
        FlashBoard b = new FlashBoard();
        b.put(0x5D, 0x8B);
        b.put(0x5E, 0x92);
        C.due("SP", b.about(1), 0x928B);
        b.power(false);
        b.put(3, 9);
        C.due("put without power", b.data(3), 9);
    }

    private static void eeprom() {
        FlashBoard b = new FlashBoard();
        C.due("last", b.eeprom(255), 0xFF);
        for (int k : new int[] {-1, 256, Integer.MIN_VALUE, Integer.MAX_VALUE}) {
            C.dueThrow("eeprom " + k, IndexOutOfBoundsException.class, () -> b.eeprom(k));
        }
    }

    private static void pinsAndFuses() {
        FlashBoard b = new FlashBoard();
        C.due("pins", b.pins(0x1A5), 0);
        C.due("23", b.data(0x23), 0xA5);
        b.reset();
        C.due("pins stay", b.pins(-1), 0xA5);
        C.due("pins", b.pins(0), 0xFF);
        C.due("fuses", b.fuses(0x1E5), 31);
        C.due("fuses", b.fuses(-1), 0x05);
        C.due("fuses", b.fuses(0x10), 0x1F);
        b.power(false);
        b.power(true);
        C.due("fuses stay", b.fuses(0), 0x10);
        C.due("PC stays", b.about(0), 0x600);
        b.reset();
        C.due("PC without FUSE", b.about(0), 0);
    }

    private static void start() {
        FlashBoard b = new Code().w(0x9588).board(0x7FF);
        C.due("start", b.about(0), 0x7FF);
        b.step();
        C.due("it sleeps", b.about(2), 1);
        C.due("PC turns over", b.about(0), 0);
        C.due("asleep", b.step(), 1);
        C.due("PC rests", b.about(0), 0);
        b.start(0x12);
        C.due("it sleeps no more", b.about(2), 0);
        C.due("PC", b.about(0), 0x12);
        for (int a : new int[] {-1, 0x800, Integer.MIN_VALUE, Integer.MAX_VALUE}) {
            C.dueThrow("start " + a, IndexOutOfBoundsException.class, () -> {
                b.start(a);
                return 0;
            });
        }
    }

    private static void reset() {
        Code code = new Code().set(0x24, 0xFF).set(0x47, 7).set(0x45, 1).set(0xC1, 0x18).set(0xC6, 1).set(0xC6, 2);
        code.w(0x9AFA, 0x9588);
        FlashBoard b = code.board(0);
        b.host(1);
        b.host(2);
        b.host(3);
        b.put(5, 55);
        b.put(0x100, 56);
        b.run(15);
        C.due("sends", b.about(13) > 0 ? 1 : 0, 1);
        C.due("comes", b.about(14) > 0 ? 1 : 0, 1);
        C.due("waits at the host", b.about(11), 2);
        int cycles = b.about(3);
        b.reset();
        int[] want = {0x600, 0, 0, cycles, 15, 0, 0, 0, 0, 0, 0, 2, 0, 0, 0, 0, 0, 0, 0, 0, 1, 0};
        for (int i = 0; i < want.length; i++) C.due("about behind reset " + i, b.about(i), want[i]);
        for (int a = 0x20; a < 0x100; a++) C.due("data behind reset " + a, b.data(a), a == 0xC0 ? 0x20 : a == 0x54 ? 3 : 0);
        C.due("R5", b.data(5), 55);
        C.due("RAM", b.data(0x100), 56);
        b.power(false);
        b.put(0x5F, 1);
        b.reset();
        C.due("nothing without power", b.data(0x5F), 1);
        C.due("nothing without power", b.data(0x54), 3);
    }

    private static void power() {
        FlashBoard b = new Code().w(0x9478, 0x9588).board(0);
        b.put(7, 1);
        b.put(0x4FF, 2);
        b.reset();
        b.start(0);
        b.run(2);
        C.due("comes while it is on", b.power(true) ? 1 : 0, 1);
        C.due("nothing", b.about(2), 1);
        C.due("goes", b.power(false) ? 1 : 0, 1);
        C.due("is gone", b.about(20), 0);
        C.due("goes again", b.power(false) ? 1 : 0, 0);
        C.due("R7 yet", b.data(7), 1);
        C.due("comes back", b.power(true) ? 1 : 0, 0);
        C.due("is there", b.about(20), 1);
        C.due("54", b.data(0x54), 1);
        C.due("R7", b.data(7), 0);
        C.due("RAM", b.data(0x4FF), 0);
        C.due("PC", b.about(0), 0x600);
        C.due("does not sleep", b.about(2), 0);
        C.due("word stays", b.word(0), 0x9478);
    }

    private static void about() {
        FlashBoard b = new FlashBoard();
        for (int what : new int[] {-1, 22, Integer.MIN_VALUE, Integer.MAX_VALUE}) {
            C.dueThrow("about " + what, NoSuchElementException.class, () -> b.about(what));
        }
    }
}
