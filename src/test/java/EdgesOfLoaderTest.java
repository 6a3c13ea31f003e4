import java.util.ArrayList;
import java.util.List;

/** Term 6 at its edges: what the loader takes, what it answers 11, 12 and 15, and where the APPLICATION goes on. */
public final class EdgesOfLoaderTest {
    private static final Checks C = new Checks();
    private final FlashBoard board = new FlashBoard();
    private int seen;

    public static void main(String[] args) {
        firstAndLastPage();
        addressesThatAreNone();
        blocksThatAreNone();
        endsThatAreNone();
        otherBytes();
        readAtTheEnds();
        readOfLocked();
        pageOfLocked();
        goesOn();
        behindTheWatchdog();
        watchdogInTime();
        otherResets();
        C.end();
    }

    /** Bytes to the board, and what it answers within some cycles more than these take. */
    private List<Integer> say(int... bytes) {
        for (int b : bytes) board.host(b);
        board.pass(bytes.length * 200 + 6000);
        if (bytes[0] == 0x64 || bytes[0] == 0x74) board.pass(30000);
        List<Integer> answers = new ArrayList<>();
        int had = board.sent();
        while (seen < had) answers.add(board.got(seen++));
        return answers;
    }

    private static void same(String what, List<Integer> got, int... want) {
        C.due(what + ": " + got + ", how many", got.size(), want.length);
        for (int i = 0; i < want.length && i < got.size(); i++) C.due(what + ": " + i, got.get(i), want[i]);
    }

    private static int[] block(int high, int low, int kind, int change) {
        int[] bytes = new int[4 + 64 + 2];
        bytes[0] = 0x64;
        bytes[1] = high;
        bytes[2] = low;
        bytes[3] = kind;
        int all = 0;
        for (int i = 0; i < 64; i++) {
            bytes[4 + i] = i * 5 + 2 & 255;
            all ^= bytes[4 + i];
        }
        bytes[68] = all ^ change;
        bytes[69] = 0x20;
        return bytes;
    }

    private void isWritten(int address) {
        for (int i = 0; i < 32; i++) {
            C.due("word " + i, board.word(address + i), (2 * i * 5 + 2 & 255) | ((2 * i + 1) * 5 + 2 & 255) << 8);
        }
    }

    /** "the address is that of a PAGE of the APPLICATION": the first and the last. */
    private static void firstAndLastPage() {
        for (int address : new int[] {0x000, 0x020, 0x5C0, 0x5E0}) {
            EdgesOfLoaderTest t = new EdgesOfLoaderTest();
            if (address > 0) t.board.burn(address - 1, 0x12340000, 0, 0, 0, 0);
            if (address < 0x5E0) t.board.burn(address + 32, 0x12340000, 0, 0, 0, 0);
            same("an address", t.say(0x55, address & 255, address >> 8, 0x20), 0x14, 0x10);
            same("its page", t.say(block(0, 0x40, 0x46, 0)), 0x14, 0x10);
            t.isWritten(address);
            if (address > 0) C.due("the word ahead", t.board.word(address - 1), 0x1234);
            C.due("the word behind", t.board.word(address + 32), address < 0x5E0 ? 0x1234 : 0xE004);
            C.due("bit 6 of 57 is 0", t.board.data(0x57), 0);
        }
    }

    /** "(bits 4 .. 0 of the address 0)); else 14 11". */
    private static void addressesThatAreNone() {
        int[] none = {0x0001, 0x0002, 0x0004, 0x0008, 0x0010, 0x001F, 0x05E1, 0x05FF, 0x0600, 0x0620, 0x07E0, 0x0800, 0x0820, 0x8000, 0xFFE0};
        for (int address : none) {
            EdgesOfLoaderTest t = new EdgesOfLoaderTest();
            for (int at : new int[] {0, 0x20, 0x5E0}) t.board.burn(at, 0x5A5A5A5A, 0, 0, 0, 0);
            same("an address", t.say(0x55, address & 255, address >> 8, 0x20), 0x14, 0x10);
            same("no page at " + Integer.toHexString(address), t.say(block(0, 0x40, 0x46, 0)), 0x14, 0x11);
            for (int at : new int[] {0, 0x20, 0x5E0}) C.due("word " + at, t.board.word(at), 0x5A5A);
            C.due("the loader stays", t.board.word(0x600), 0xE004);
            C.due("and its page 7E0", t.board.word(0x7E0), 0xFFFF);
        }
    }

    private static void blocksThatAreNone() {
        int[][] rows = {{1, 0x40, 0x46, 0}, {0x80, 0x40, 0x46, 0}, {0, 0x3F, 0x46, 0}, {0, 0x41, 0x46, 0}, {0, 0, 0x46, 0},
            {0, 0x40, 0x45, 0}, {0, 0x40, 0x47, 0}, {0, 0x40, 0, 0}, {0, 0x40, 0x46, 1}, {0, 0x40, 0x46, 0x80}, {1, 0x40, 0x46, 1}};
        for (int[] row : rows) {
            EdgesOfLoaderTest t = new EdgesOfLoaderTest();
            same("an address", t.say(0x55, 0x40, 0, 0x20), 0x14, 0x10);
            same("64 " + row[0] + " " + row[1] + " " + row[2] + ", off by " + row[3], t.say(block(row[0], row[1], row[2], row[3])), 0x14, 0x11);
            C.due("nothing is written", t.board.word(0x40), 0xFFFF);
            same("then a good one", t.say(block(0, 0x40, 0x46, 0)), 0x14, 0x10);
            t.isWritten(0x40);
        }
    }

    /** "Another byte where 20 should be: 15." */
    private static void endsThatAreNone() {
        for (int end : new int[] {0x00, 0x1F, 0x21, 0x30, 0xFF}) {
            EdgesOfLoaderTest t = new EdgesOfLoaderTest();
            same("30", t.say(0x30, end), 0x15);
            same("75", t.say(0x75, end), 0x15);
            same("51", t.say(0x51, end), 0x15);
            same("another", t.say(0x41, end), 0x15);
            same("74", t.say(0x74, 0, 0x40, 0x46, end), 0x15);
            same("55", t.say(0x55, 0x40, 0, end), 0x15);
            int[] bytes = block(0, 0x40, 0x46, 0);
            bytes[69] = end;
            same("64", t.say(bytes), 0x15);
            C.due("nothing is written", t.board.word(0x40), 0xFFFF);
            same("and then all is well", t.say(0x30, 0x20), 0x14, 0x10);
            C.due("SP is where it was", t.board.about(1) > 0x4F8 ? 1 : 0, 1);
        }
    }

    /** "Another byte, 20: 14 12." */
    private static void otherBytes() {
        boolean[] told = new boolean[256];
        for (int b : new int[] {0x30, 0x55, 0x64, 0x74, 0x75, 0x51}) told[b] = true;
        EdgesOfLoaderTest t = new EdgesOfLoaderTest();
        for (int b = 0; b < 256; b++) {
            if (told[b]) continue;
            if (b % 32 == 0) t = new EdgesOfLoaderTest();
            same("another byte " + b, t.say(b, 0x20), 0x14, 0x12);
        }
    }

    /** "64 bytes from the address on": where the address is of no PAGE, and where they turn over. */
    private static void readAtTheEnds() {
        for (int address : new int[] {0x000, 0x011, 0x5F0, 0x600, 0x7E0, 0x7F0, 0x7FF, 0x800}) {
            EdgesOfLoaderTest t = new EdgesOfLoaderTest();
            for (int i = 0; i < 4; i++) {
                t.board.burn(10 * i, 0x10203040 + i, 0x50607080 + i, 0x11213141 + i, 0x51617181 + i, 0x91A1B1C1 + i);
                t.board.burn(0x5D8 + 10 * i, 0x1A2A3A4A + i, 0x5A6A7A8A + i, 0x1B2B3B4B + i, 0x5B6B7B8B + i, 0x9BABBBCB + i);
                t.board.burn(0x7D8 + 10 * i, 0x1C2C3C4C + i, 0x5C6C7C8C + i, 0x1D2D3D4D + i, 0x5D6D7D8D + i, 0x9DADBDCD + i);
            }
            t.board.burn(0x600, 0xE004BF0E, 0xEF0FBF0D, 0xB7142411, 0xBE1495A8, 0xFD13C09A);
            same("an address", t.say(0x55, address & 255, address >> 8, 0x20), 0x14, 0x10);
            List<Integer> got = t.say(0x74, 0xFF, 0x01, 0x00, 0x20);
            C.due("how many from " + address, got.size(), 66);
            if (got.size() != 66) continue;
            C.due("14", got.get(0), 0x14);
            for (int i = 0; i < 64; i++) {
                int w = t.board.word(address + i / 2 & 0x7FF);
                C.due("byte " + i + " from " + Integer.toHexString(address), got.get(1 + i), i % 2 == 0 ? w & 255 : w >> 8);
            }
            C.due("10", got.get(65), 0x10);
        }
    }

    /** The loader stands in the BOOT SECTION: with LOCKS' bit 1 0 it LOADS FF of the APPLICATION. */
    private static void readOfLocked() {
        for (int locks = 0; locks < 16; locks++) {
            EdgesOfLoaderTest t = new EdgesOfLoaderTest();
            t.board.burn(0, 0x12345678, 0, 0, 0, 0);
            t.board.fuses(0x10 | locks);
            same("an address", t.say(0x55, 0, 0, 0x20), 0x14, 0x10);
            List<Integer> got = t.say(0x74, 0, 0x40, 0x46, 0x20);
            C.due("how many, LOCKS " + locks, got.size(), 66);
            if (got.size() == 66) C.due("the first, LOCKS " + locks, got.get(1), (locks & 2) == 0 ? 0xFF : 0x34);
        }
    }

    private static void pageOfLocked() {
        EdgesOfLoaderTest t = new EdgesOfLoaderTest();
        t.board.burn(0x40, 0x12345678, 0, 0, 0, 0);
        t.board.fuses(0x1E);
        same("an address", t.say(0x55, 0x40, 0, 0x20), 0x14, 0x10);
        t.say(block(0, 0x40, 0x46, 0));
        C.due("a page that is locked stays", t.board.word(0x40), 0x1234);
        same("and the loader goes on", t.say(0x30, 0x20), 0x14, 0x10);
    }

    /** "51 20: 14 10, and the APPLICATION goes on at 0". */
    private static void goesOn() {
        EdgesOfLoaderTest t = new EdgesOfLoaderTest();
        new Code().ldi(20, 0x99).w(0x9588).burn(t.board, 0);
        same("51 20", t.say(0x51, 0x20), 0x14, 0x10);
        C.due("it SLEEPS at its end", t.board.about(2), 1);
        C.due("PC", t.board.about(0), 2);
        C.due("R20", t.board.data(20), 0x99);
        C.due("60", t.board.data(0x60), 0);
        C.due("C1", t.board.data(0xC1), 0);
        t.board.pass(150000);
        C.due("no watchdog then", t.board.about(6), 0);
        t = new EdgesOfLoaderTest();
        new Code().ldi(20, 0x99).w(0x9588).burn(t.board, 0);
        t.say(0x30, 0x20);
        t.say(0x51, 0x20);
        C.due("behind another command, too", t.board.data(20), 0x99);
    }

    /** "likewise behind a RESET by the watchdog, if word 0 is not FFFF". */
    private static void behindTheWatchdog() {
        for (int w : new int[] {0xFFFF, 0xFFFE, 0x7FFF, 0x00FF, 0xFF00, 0x0000, 0xFEFF}) {
            EdgesOfLoaderTest t = new EdgesOfLoaderTest();
            new Code().w(w, w == 0 ? 0 : 0xFFFF, 0x9588).burn(t.board, 0);
            t.board.pass(131072 + 100);
            C.due("the RESET by the watchdog", t.board.about(6), 1);
            C.due("SLEEPS with word 0 " + Integer.toHexString(w), t.board.about(2), w == 0xFFFF ? 0 : 1);
            if (w == 0xFFFF) {
                same("the loader goes on", t.say(0x30, 0x20), 0x14, 0x10);
            } else {
                C.due("PC", t.board.about(0), 3);
                C.due("60", t.board.data(0x60), 0);
                C.due("54", t.board.data(0x54), 0);
            }
        }
    }

    /** The loader's watchdog has PERIOD 5, and each byte makes its COUNT 0. */
    private static void watchdogInTime() {
        EdgesOfLoaderTest t = new EdgesOfLoaderTest();
        new Code().w(0x9588).burn(t.board, 0);
        t.board.pass(100);
        for (int i = 0; i < 4; i++) {
            t.board.pass(120000);
            C.due("no RESET yet", t.board.about(6), 0);
            same("a command in time", t.say(0x30, 0x20), 0x14, 0x10);
        }
        t.board.pass(140000);
        C.due("a RESET then", t.board.about(6), 1);
        C.due("the APPLICATION", t.board.about(2), 1);
    }

    /** Behind a RESET by the host, or by power, the loader goes on whatever word 0 is. */
    private static void otherResets() {
        EdgesOfLoaderTest t = new EdgesOfLoaderTest();
        new Code().w(0x9588).burn(t.board, 0);
        t.board.pass(500);
        t.board.reset();
        same("behind the host's", t.say(0x30, 0x20), 0x14, 0x10);
        t.board.power(false);
        t.board.power(true);
        same("behind power's", t.say(0x30, 0x20), 0x14, 0x10);
        t.board.fuses(0x0F);
        t.board.reset();
        t.board.pass(10);
        C.due("with FUSE 0 the APPLICATION", t.board.about(0), 1);
    }
}
