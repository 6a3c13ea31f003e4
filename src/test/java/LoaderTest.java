import java.nio.file.Files;
import java.nio.file.Path;
import java.util.ArrayList;
import java.util.List;

/** The loader: its words are those of the document, and it does what the document tells that it does. */
public final class LoaderTest {
    private static final Checks C = new Checks();

    public static void main(String[] args) throws Exception {
        words();
        hello();
        identity();
        unknown();
        programPage();
        pageThatIsNone();
        wrongData();
        readPage();
        application();
        watchdog();
        badEnd();
        C.end();
    }

    private static void words() throws Exception {
        String text = Files.readString(Path.of("../shared/DOC.md"));
        int from = text.indexOf("6. THE LOADER");
        String block = text.substring(text.indexOf("```text", from) + 7, text.indexOf("What it does", from));
        FlashBoard b = new FlashBoard();
        int address = 0x600;
        for (String word : block.trim().split("\\s+")) {
            C.due("loader at " + address, b.word(address), Integer.parseInt(word, 16));
            address++;
        }
        C.due("its end", address, 0x6B6);
    }

    private final FlashBoard board = new FlashBoard();
    private int seen;

    /** Bytes to the board, and what it answers till all is quiet. */
    private List<Integer> say(int... bytes) {
        for (int b : bytes) board.host(b);
        board.pass(Math.max(2000, bytes.length * 200 + 1500));
        int before = -1;
        for (int i = 0; i < 100 && before != board.sent(); i++) {
            before = board.sent();
            board.pass(40000);
        }
        List<Integer> answers = new ArrayList<>();
        while (seen < board.sent()) answers.add(board.got(seen++));
        return answers;
    }

    private static void same(String what, List<Integer> got, int... want) {
        C.due(what + ": " + got + ", how many", got.size(), want.length);
        for (int i = 0; i < want.length && i < got.size(); i++) C.due(what + ": " + i, got.get(i), want[i]);
    }

    private static void hello() {
        same("30 20", new LoaderTest().say(0x30, 0x20), 0x14, 0x10);
    }

    private static void identity() {
        same("75 20", new LoaderTest().say(0x75, 0x20), 0x14, 0x1E, 0x93, 0x07, 0x10);
    }

    private static void unknown() {
        same("41 20", new LoaderTest().say(0x41, 0x20), 0x14, 0x12);
    }

    private static int[] page(int seed, int change) {
        int[] bytes = new int[4 + 64 + 2];
        bytes[0] = 0x64;
        bytes[2] = 0x40;
        bytes[3] = 0x46;
        int all = 0;
        for (int i = 0; i < 64; i++) {
            bytes[4 + i] = i * 7 + seed & 255;
            all ^= bytes[4 + i];
        }
        bytes[68] = all ^ change;
        bytes[69] = 0x20;
        return bytes;
    }

    private static void programPage() {
        LoaderTest t = new LoaderTest();
        same("an address", t.say(0x55, 0x40, 0x01, 0x20), 0x14, 0x10);
        same("a page", t.say(page(3, 0)), 0x14, 0x10);
        for (int i = 0; i < 32; i++) {
            int want = (2 * i * 7 + 3 & 255) | ((2 * i + 1) * 7 + 3 & 255) << 8;
            C.due("word " + i, t.board.word(0x140 + i), want);
        }
        C.due("ahead of it", t.board.word(0x13F), 0xFFFF);
        C.due("behind it", t.board.word(0x160), 0xFFFF);
        same("the page again, other data", t.say(page(9, 0)), 0x14, 0x10);
        C.due("erased ahead", t.board.word(0x140), 0x1009);
        same("the last page", t.say(0x55, 0xE0, 0x05, 0x20), 0x14, 0x10);
        same("its data", t.say(page(1, 0)), 0x14, 0x10);
        C.due("5E0", t.board.word(0x5E0), 0x0801);
    }

    private static void pageThatIsNone() {
        LoaderTest t = new LoaderTest();
        same("an address of no PAGE", t.say(0x55, 0x41, 0x01, 0x20), 0x14, 0x10);
        same("a page", t.say(page(3, 0)), 0x14, 0x11);
        same("an address of the BOOT SECTION", t.say(0x55, 0x00, 0x06, 0x20), 0x14, 0x10);
        same("a page", t.say(page(3, 0)), 0x14, 0x11);
        C.due("the loader stays", t.board.word(0x600), 0xE004);
    }

    private static void wrongData() {
        LoaderTest t = new LoaderTest();
        same("an address", t.say(0x55, 0x40, 0x00, 0x20), 0x14, 0x10);
        same("a wrong sum", t.say(page(3, 1)), 0x14, 0x11);
        C.due("nothing written", t.board.word(0x40), 0xFFFF);
    }

    private static void readPage() {
        LoaderTest t = new LoaderTest();
        for (int i = 0; i < 32; i += 10) t.board.burn(0x20 + i, 0x01020304, 0x05060708, 0x090A0B0C, 0x0D0E0F10, 0x11121314);
        same("an address", t.say(0x55, 0x20, 0x00, 0x20), 0x14, 0x10);
        List<Integer> got = t.say(0x74, 0x00, 0x40, 0x46, 0x20);
        C.due("how many", got.size(), 66);
        for (int i = 0; i < 64; i++) {
            int w = t.board.word(0x20 + i / 2);
            C.due("byte " + i, got.get(1 + i), i % 2 == 0 ? w & 255 : w >> 8);
        }
        C.due("the last", got.get(got.size() - 1), 0x10);
    }

    private static void application() {
        LoaderTest t = new LoaderTest();
        new Code().w(0x9588).burn(t.board, 0);
        same("51 20", t.say(0x51, 0x20), 0x14, 0x10);
        C.due("the APPLICATION sleeps", t.board.about(2), 1);
        C.due("behind word 0", t.board.about(0), 1);
        C.due("the watchdog is off", t.board.data(0x60), 0);
        C.due("the line is off", t.board.data(0xC1), 0);
    }

    private static void watchdog() {
        LoaderTest t = new LoaderTest();
        new Code().w(0x9588).burn(t.board, 0);
        t.board.pass(140000);
        C.due("a RESET by the watchdog", t.board.about(6), 1);
        C.due("the APPLICATION goes on", t.board.about(0), 1);
        LoaderTest none = new LoaderTest();
        none.board.pass(140000);
        C.due("a RESET by the watchdog", none.board.about(6), 1);
        same("without an APPLICATION the loader goes on", none.say(0x30, 0x20), 0x14, 0x10);
    }

    private static void badEnd() {
        LoaderTest t = new LoaderTest();
        List<Integer> got = t.say(0x30, 0x21);
        C.due("15", got.isEmpty() ? -1 : got.get(0), 0x15);
    }
}
