import java.util.Random;

/**
 * Random programs and calls: the class answers each as the Model, a second reading of the document, does. One object is
 * used for at most 512 calls, so each call is done on several boards, and behind it each is asked something else.
 */
public final class RandomRunsTest {
    /** A call of a board, with its answer. */
    private interface Call {
        long on(FlashBoard b);
    }

    private static final int[] PLACES = {0x23, 0x24, 0x25, 0x35, 0x3E, 0x3F, 0x40, 0x41, 0x44, 0x45, 0x46, 0x47, 0x4A, 0x4B,
        0x54, 0x55, 0x57, 0x5D, 0x5E, 0x5F, 0x60, 0x6E, 0xC0, 0xC1, 0xC2, 0xC4, 0xC5, 0xC6};
    private static final int[] COMMANDS = {0x01, 0x03, 0x05, 0x09, 0x11, 0x83, 0x85, 0x91, 0x81, 0x07, 0x00, 0x02, 0x1F};
    private static final Checks CHECKS = new Checks();

    private final Random random;
    private final int[] words = new int[2048];
    private FlashBoard[] boards;
    private Model model;
    /** How many calls each board may take yet. */
    private int left;
    private int filled;

    private RandomRunsTest(long seed) {
        random = new Random(seed);
    }

    public static void main(String[] args) {
        int runs = args.length > 0 ? Integer.parseInt(args[0]) : 400;
        int first = args.length > 1 ? Integer.parseInt(args[1]) : 0;
        for (int seed = first; seed < first + runs; seed++) {
            if (!new RandomRunsTest(seed).isAsDue(seed)) {
                System.out.println("seed " + seed);
                break;
            }
        }
        CHECKS.end();
    }

    private boolean isAsDue(int seed) {
        // Long passes cost more, and each board does them.
        int longest = seed % 5 == 0 ? 20000 : seed % 5 == 1 ? 300 : 12;
        boards = new FlashBoard[seed % 5 == 0 ? 6 : 24];
        for (int i = 0; i < boards.length; i++) boards[i] = new FlashBoard();
        model = new Model(loader());
        left = 512;
        if (seed % 8 != 0) burnProgram(seed % 2 == 0 ? 2048 : 450);
        while (left > 60) {
            String call = oneCall(longest);
            if (!same("seed " + seed + ", " + left + " calls left, " + call)) return false;
        }
        return sameInTheEnd(seed);
    }

    private static int[] loader() {
        FlashBoard first = new FlashBoard();
        int[] words = new int[0x200];
        for (int i = 0; i < words.length; i++) words[i] = first.word(0x600 + i);
        return words;
    }

    /** A call done on each board; its answer is that of the Model. */
    private void due(String call, Call done, long want) {
        left--;
        for (FlashBoard b : boards) CHECKS.due(call, done.on(b), want);
    }

    // ---- programs

    private void add(int w) {
        if (filled < 2048) words[filled++] = w & 0xFFFF;
    }

    /** So many words: half of them from 0 on, half from 600 on, or all of FLASH. */
    private void burnProgram(int size) {
        int mode = random.nextInt(4);
        filled = 0;
        while (filled < 2048) {
            int kind = random.nextInt(20);
            if (kind == 0) {
                add(random.nextInt(65536));
            } else if (kind < 4) {
                special();
            } else {
                fromPattern(mode);
            }
        }
        for (int a = 0; a < size; a += 10) burnTen(size == 2048 || a < size / 2 ? a : 0x600 + a - size / 2);
    }

    private void burnTen(int a) {
        int[] five = new int[5];
        for (int i = 0; i < 10; i++) {
            int w = a + i < 2048 ? words[a + i] : random.nextInt(65536);
            five[i / 2] |= i % 2 == 0 ? w << 16 : w;
            if (a + i < 2048) model.flash[a + i] = w;
        }
        due("burn(" + a + ")", b -> b.burn(a, five[0], five[1], five[2], five[3], five[4]), Math.min(10, 2048 - a));
    }

    private int place() {
        int kind = random.nextInt(10);
        if (kind < 5) return PLACES[random.nextInt(PLACES.length)];
        if (kind < 6) return random.nextInt(0x100);
        if (kind < 7) return 0x4F8 + random.nextInt(16);
        if (kind < 8) return random.nextInt(65536);
        return 0x100 + random.nextInt(0x400);
    }

    private void fromPattern(int mode) {
        String row = Model.PATTERNS[random.nextInt(Model.PATTERNS.length)];
        String name = row.substring(0, 4);
        // Jumps anywhere leave few straight lines; some programs do without most of them.
        if (mode > 0 && random.nextInt(4) > 0 && "RJMPRCALJMP CALLIJMPICALRET RETIBRBSBRBCSLEE".contains(name)) return;
        int w = 0;
        for (char c : row.substring(5).toCharArray()) w = 2 * w + (c == '0' ? 0 : c == '1' ? 1 : random.nextInt(2));
        add(w);
        if (name.startsWith("LDS") || name.startsWith("STS")) add(place());
        if (name.startsWith("JMP") || name.startsWith("CALL")) add(random.nextInt(65536));
    }

    private int ldi(int d, int k) {
        return 0xE000 | (k & 0xF0) << 4 | (d - 16) << 4 | k & 15;
    }

    private int out(int port, int r) {
        return 0xB800 | (port & 0x30) << 5 | r << 4 | port & 15;
    }

    private void sts(int address, int r) {
        add(0x9200 | r << 4);
        add(address);
    }

    private void special() {
        int r = 16 + random.nextInt(8);
        int q = 16 + random.nextInt(8);
        int v = random.nextInt(256);
        switch (random.nextInt(9)) {
            case 0: case 1:
                add(ldi(r, COMMANDS[random.nextInt(COMMANDS.length)]));
                add(out(0x37, r));
                for (int i = random.nextInt(12) / 3; i > 0; i--) add(0);
                add(random.nextInt(4) == 0 ? 0x95C8 : random.nextInt(4) == 0 ? 0x9005 : 0x95E8);
                break;
            case 2:
                add(ldi(r, 0x18));
                add(ldi(q, random.nextInt(3) == 0 ? v : random.nextInt(2) == 0 ? 0x08 : 0x40));
                sts(0x60, r);
                sts(0x60, q);
                break;
            case 3:
                if (random.nextInt(2) == 0) add(out(0x21, r));
                if (random.nextInt(2) == 0) add(out(0x20, q));
                add(0x9AFA);
                add(random.nextInt(3) == 0 ? 0x9AF8 : 0x9AF9);
                break;
            case 4:
                add(ldi(r, random.nextInt(8)));
                add(out(0x25, r));
                sts(0x6E, q);
                break;
            case 5:
                add(ldi(r, 0x18 | v & 0xE0));
                sts(0xC1, r);
                sts(0xC6, q);
                if (random.nextInt(2) == 0) sts(0xC6, r);
                break;
            case 6:
                add(ldi(r, 1));
                add(ldi(q, random.nextInt(4)));
                add(out(0x35, r));
                add(out(0x35, q));
                break;
            case 7:
                add(ldi(r, random.nextInt(3)));
                sts(0xC5, 1);
                sts(0xC4, r);
                break;
            default:
                add(0x9478);
                if (random.nextInt(2) == 0) add(0x9588);
                break;
        }
    }

    // ---- calls

    private String oneCall(int longest) {
        int kind = random.nextInt(100);
        if (kind < 50) {
            due("step()", FlashBoard::step, model.step());
            return "step()";
        }
        if (kind < 60) return pass(1 + random.nextInt(longest));
        if (kind < 63) return run(1 + random.nextInt(Math.min(longest, 5000)));
        if (kind < 70) {
            int byteOfHost = random.nextInt();
            boolean full = model.atHost.size() >= 300;
            if (!full) model.atHost.addLast(byteOfHost & 255);
            due("host", b -> b.host(byteOfHost), full ? FlashBoard.NONE : model.atHost.size());
            return "host(" + byteOfHost + ")";
        }
        if (kind < 88) return put();
        if (kind < 92) return start(random.nextInt(4) == 0 ? random.nextInt(2048) : random.nextInt(2) * 0x600 + random.nextInt(0x200));
        return rare(kind);
    }

    private String start(int a) {
        due("start", b -> {
            b.start(a);
            return a;
        }, a);
        model.pc = a;
        model.sleeps = false;
        return "start(" + a + ")";
    }

    private String rare(int kind) {
        int v = kind < 96 && kind >= 94 && random.nextInt(3) > 0 ? 31 : random.nextInt();
        if (kind < 94) {
            due("pins", b -> b.pins(v), model.pins);
            model.pins = v & 255;
            return "pins(" + v + ")";
        }
        if (kind < 96) {
            due("fuses", b -> b.fuses(v), model.fuse * 16 + model.locks);
            model.locks = v & 15;
            model.fuse = v >> 4 & 1;
            return "fuses(" + v + ")";
        }
        if (kind < 97) return reset();
        return kind < 98 ? power(random.nextInt(4) > 0) : program();
    }

    private String reset() {
        due("reset", b -> {
            b.reset();
            return 0;
        }, 0);
        if (model.on) model.resetAll(1);
        return "reset()";
    }

    private String power(boolean on) {
        due("power", b -> b.power(on) ? 1 : 0, model.on ? 1 : 0);
        if (on && !model.on) model.resetAll(0);
        model.on = on;
        return "power(" + on + ")";
    }

    /** Some of the program is laid anew where it may have been erased. */
    private String program() {
        int a = random.nextInt(2048);
        filled = a;
        while (filled < Math.min(2048, a + 10)) special();
        burnTen(a);
        return "burn(" + a + ")";
    }

    private String pass(int n) {
        int gone = 0;
        while (model.on && gone < n) gone += model.step();
        due("pass(" + n + ")", b -> b.pass(n), gone);
        return "pass(" + n + ")";
    }

    private String run(int n) {
        int gone = 0;
        for (int i = 0; i < n; i++) gone += model.step();
        due("run(" + n + ")", b -> b.run(n), gone);
        return "run(" + n + ")";
    }

    private String put() {
        int kind = random.nextInt(5);
        if (kind == 0) return put(random.nextInt(32), random.nextInt());
        if (kind == 1) return put(0x5F, random.nextInt());
        if (kind == 2) return put(0x100 + random.nextInt(0x400), random.nextInt());
        int low = kind == 3 ? 26 + 2 * random.nextInt(3) : 0x5D;
        int to = place() + random.nextInt(2);
        return put(low, to) + put(low + 1, to >> 8);
    }

    private String put(int address, int v) {
        due("put", b -> {
            b.put(address, v);
            return 0;
        }, 0);
        model.mem[address] = v & 255;
        return "put(" + address + ", " + (v & 255) + ") ";
    }

    // ---- comparing

    /** Each board is asked one thing: most often what changes most. */
    private boolean same(String where) {
        left--;
        boolean same = true;
        for (FlashBoard b : boards) same &= same(where, b, somethingToAsk());
        return same;
    }

    private int somethingToAsk() {
        int kind = random.nextInt(16);
        if (kind < 6) return random.nextInt(Readings.DATA);
        if (kind < 10) return Readings.DATA + PLACES[random.nextInt(PLACES.length)];
        if (kind < 12) return Readings.DATA + random.nextInt(0x60);
        if (kind < 13) return Readings.DATA + model.about(1) % 0x4FE + random.nextInt(3);
        if (kind < 14) return Readings.DATA + random.nextInt(0x500);
        return random.nextInt(Readings.PINS);
    }

    private boolean sameInTheEnd(int seed) {
        boolean same = true;
        int next = random.nextInt(Readings.PINS);
        for (FlashBoard b : boards) {
            for (int i = 0; i < left; i++) same &= same("seed " + seed + ", in the end", b, next++ % Readings.PINS);
        }
        return same;
    }

    private boolean same(String where, FlashBoard b, int i) {
        int got = Readings.one(b, i);
        int want = wanted(i);
        CHECKS.due(got == want ? where : where + ": " + Readings.name(i), got, want);
        return got == want;
    }

    private int wanted(int i) {
        if (i < Readings.DATA) return model.about(i);
        if (i < Readings.WORD) return model.look(i - Readings.DATA);
        if (i < Readings.EEPROM) return model.flash[i - Readings.WORD];
        if (i < Readings.SENT) return model.ee[i - Readings.EEPROM];
        if (i < Readings.GOT) return model.hostHas.size();
        int k = i - Readings.GOT;
        return k < model.hostHas.size() && k < 1000 ? model.hostHas.get(k) : -1;
    }
}
