import java.util.NoSuchElementException;
import java.util.Random;

/** Random programs and calls: the class answers each as the Model, a second reading of the document, does. */
public final class RandomRunsTest {
    private static final int[] PLACES = {0x23, 0x24, 0x25, 0x35, 0x3E, 0x3F, 0x40, 0x41, 0x44, 0x45, 0x46, 0x47, 0x4A, 0x4B,
        0x54, 0x55, 0x57, 0x5D, 0x5E, 0x5F, 0x60, 0x6E, 0xC0, 0xC1, 0xC2, 0xC4, 0xC5, 0xC6};
    private static final int[] COMMANDS = {0x01, 0x03, 0x05, 0x09, 0x11, 0x83, 0x85, 0x91, 0x81, 0x07, 0x00, 0x02, 0x1F};
    private static final Checks CHECKS = new Checks();

    private final Random random;
    private final int[] words = new int[2048];
    private FlashBoard board;
    private Model model;
    private int filled;

    private RandomRunsTest(long seed) {
        random = new Random(seed);
    }

    public static void main(String[] args) {
        int runs = args.length > 0 ? Integer.parseInt(args[0]) : 400;
        int first = args.length > 1 ? Integer.parseInt(args[1]) : 0;
        for (int seed = first; seed < first + runs; seed++) {
            if (!new RandomRunsTest(seed).isAsDue(seed)) {
                System.out.println("seed " + seed);
                break;
            }
        }
        CHECKS.end();
    }

    private boolean isAsDue(int seed) {
        board = new FlashBoard();
        int[] loader = new int[0x200];
        for (int i = 0; i < loader.length; i++) loader[i] = board.word(0x600 + i);
        model = new Model(loader);
        if (seed % 8 != 0) burnProgram();
        int calls = 300;
        int longest = seed % 5 == 0 ? 20000 : seed % 5 == 1 ? 300 : 12;
        for (int i = 0; i < calls; i++) {
            String call = oneCall(longest);
            if (!same("seed " + seed + ", call " + i + ", " + call)) return false;
        }
        return true;
    }

    // ---- programs

    private void add(int w) {
        if (filled < 2048) words[filled++] = w & 0xFFFF;
    }

    private void burnProgram() {
        int mode = random.nextInt(4);
        filled = 0;
        while (filled < 2048) {
            int kind = random.nextInt(20);
            if (kind == 0) {
                add(random.nextInt(65536));
            } else if (kind < 4) {
                special();
            } else {
                fromPattern(mode);
            }
        }
        for (int a = 0; a < 2048; a += 10) {
            int[] five = new int[5];
            for (int i = 0; i < 10; i++) {
                int w = a + i < 2048 ? words[a + i] : random.nextInt(65536);
                five[i / 2] |= i % 2 == 0 ? w << 16 : w;
                if (a + i < 2048) model.flash[a + i] = w;
            }
            CHECKS.due("burn", board.burn(a, five[0], five[1], five[2], five[3], five[4]), Math.min(10, 2048 - a));
        }
    }

    private int place() {
        int kind = random.nextInt(10);
        if (kind < 5) return PLACES[random.nextInt(PLACES.length)];
        if (kind < 6) return random.nextInt(0x100);
        if (kind < 7) return 0x4F8 + random.nextInt(16);
        if (kind < 8) return random.nextInt(65536);
        return 0x100 + random.nextInt(0x400);
    }

    private void fromPattern(int mode) {
        String row = Model.PATTERNS[random.nextInt(Model.PATTERNS.length)];
        String name = row.substring(0, 4);
        // Jumps anywhere leave few straight lines; some programs do without most of them.
        if (mode > 0 && random.nextInt(4) > 0 && "RJMPRCALJMP CALLIJMPICALRET RETIBRBSBRBCSLEE".contains(name)) return;
        int w = 0;
        for (char c : row.substring(5).toCharArray()) w = 2 * w + (c == '0' ? 0 : c == '1' ? 1 : random.nextInt(2));
        add(w);
        if (name.startsWith("LDS") || name.startsWith("STS")) add(place());
        if (name.startsWith("JMP") || name.startsWith("CALL")) add(random.nextInt(65536));
    }

    private int ldi(int d, int k) {
        return 0xE000 | (k & 0xF0) << 4 | (d - 16) << 4 | k & 15;
    }

    private int out(int port, int r) {
        return 0xB800 | (port & 0x30) << 5 | r << 4 | port & 15;
    }

    private void sts(int address, int r) {
        add(0x9200 | r << 4);
        add(address);
    }

    private void special() {
        int r = 16 + random.nextInt(8);
        int q = 16 + random.nextInt(8);
        int v = random.nextInt(256);
        switch (random.nextInt(9)) {
            case 0: case 1:
                add(ldi(r, COMMANDS[random.nextInt(COMMANDS.length)]));
                add(out(0x37, r));
                for (int i = random.nextInt(12) / 3; i > 0; i--) add(0);
                add(random.nextInt(4) == 0 ? 0x95C8 : random.nextInt(4) == 0 ? 0x9005 : 0x95E8);
                break;
            case 2:
                add(ldi(r, 0x18));
                add(ldi(q, random.nextInt(3) == 0 ? v : random.nextInt(2) == 0 ? 0x08 : 0x40));
                sts(0x60, r);
                sts(0x60, q);
                break;
            case 3:
                if (random.nextInt(2) == 0) add(out(0x21, r));
                if (random.nextInt(2) == 0) add(out(0x20, q));
                add(0x9AFA);
                add(random.nextInt(3) == 0 ? 0x9AF8 : 0x9AF9);
                break;
            case 4:
                add(ldi(r, random.nextInt(8)));
                add(out(0x25, r));
                sts(0x6E, q);
                break;
            case 5:
                add(ldi(r, 0x18 | v & 0xE0));
                sts(0xC1, r);
                sts(0xC6, q);
                if (random.nextInt(2) == 0) sts(0xC6, r);
                break;
            case 6:
                add(ldi(r, 1));
                add(ldi(q, random.nextInt(4)));
                add(out(0x35, r));
                add(out(0x35, q));
                break;
            case 7:
                add(ldi(r, random.nextInt(3)));
                sts(0xC5, 1);
                sts(0xC4, r);
                break;
            default:
                add(0x9478);
                if (random.nextInt(2) == 0) add(0x9588);
                break;
        }
    }

    // ---- calls

    private String oneCall(int longest) {
        int kind = random.nextInt(100);
        if (kind < 50) {
            CHECKS.due("step()", board.step(), model.step());
            return "step()";
        }
        if (kind < 60) return pass(1 + random.nextInt(longest));
        if (kind < 63) return run(1 + random.nextInt(Math.min(longest, 5000)));
        if (kind < 70) {
            int b = random.nextInt();
            if (model.atHost.size() < 300) model.atHost.addLast(b & 255);
            CHECKS.due("host", board.host(b), model.atHost.size());
            return "host(" + b + ")";
        }
        if (kind < 88) return put();
        if (kind < 92) {
            int a = random.nextInt(4) == 0 ? random.nextInt(2048) : random.nextInt(2) * 0x600 + random.nextInt(0x200);
            board.start(a);
            model.pc = a;
            model.sleeps = false;
            return "start(" + a + ")";
        }
        return rare(kind);
    }

    private String rare(int kind) {
        if (kind < 94) {
            int v = random.nextInt();
            CHECKS.due("pins", board.pins(v), model.pins);
            model.pins = v & 255;
            return "pins(" + v + ")";
        }
        if (kind < 96) {
            int v = random.nextInt(3) == 0 ? random.nextInt() : 31;
            CHECKS.due("fuses", board.fuses(v), model.fuse * 16 + model.locks);
            model.locks = v & 15;
            model.fuse = v >> 4 & 1;
            return "fuses(" + v + ")";
        }
        if (kind < 97) {
            board.reset();
            if (model.on) model.resetAll(1);
            return "reset()";
        }
        if (kind < 98) {
            boolean on = random.nextInt(4) > 0;
            CHECKS.due("power", board.power(on) ? 1 : 0, model.on ? 1 : 0);
            if (on && !model.on) model.resetAll(0);
            model.on = on;
            return "power(" + on + ")";
        }
        return program();
    }

    /** A page of the program is laid anew where some has been erased. */
    private String program() {
        for (int i = 0; i < 2048; i++) words[i] = model.flash[i];
        int a = random.nextInt(2048);
        filled = a;
        while (filled < Math.min(2048, a + 10)) special();
        int[] five = new int[5];
        for (int i = 0; i < 10; i++) {
            int w = a + i < 2048 ? words[a + i] : 0;
            five[i / 2] |= i % 2 == 0 ? w << 16 : w;
            if (a + i < 2048) model.flash[a + i] = w;
        }
        CHECKS.due("burn", board.burn(a, five[0], five[1], five[2], five[3], five[4]), Math.min(10, 2048 - a));
        return "burn(" + a + ")";
    }

    private String pass(int n) {
        int gone = 0;
        while (model.on && gone < n) gone += model.step();
        CHECKS.due("pass(" + n + ")", board.pass(n), gone);
        return "pass(" + n + ")";
    }

    private String run(int n) {
        int gone = 0;
        for (int i = 0; i < n; i++) gone += model.step();
        CHECKS.due("run(" + n + ")", board.run(n), gone);
        return "run(" + n + ")";
    }

    private String put() {
        int kind = random.nextInt(5);
        if (kind == 0) return put(random.nextInt(32), random.nextInt());
        if (kind == 1) return put(0x5F, random.nextInt());
        if (kind == 2) return put(0x100 + random.nextInt(0x400), random.nextInt());
        int low = kind == 3 ? 26 + 2 * random.nextInt(3) : 0x5D;
        int to = place() + random.nextInt(2);
        return put(low, to) + put(low + 1, to >> 8);
    }

    private String put(int address, int v) {
        board.put(address, v);
        model.mem[address] = v & 255;
        return "put(" + address + ", " + (v & 255) + ") ";
    }

    // ---- comparing

    private boolean same(String where) {
        int differences = 0;
        for (int i = 0; i < 22; i++) differences += differs(where, "about", i, board.about(i), model.about(i));
        for (int a = 0; a < 0x500; a++) differences += differs(where, "data", a, board.data(a), model.look(a));
        differences += differs(where, "sent", 0, board.sent(), model.hostHas.size());
        if (differences > 0 || random.nextInt(8) > 0) return differences == 0;
        for (int a = 0; a < 2048; a++) differences += differs(where, "word", a, board.word(a), model.flash[a]);
        for (int k = 0; k < 256; k++) differences += differs(where, "eeprom", k, board.eeprom(k), model.ee[k]);
        for (int i = 0; i < 1001; i++) differences += differs(where, "got", i, got(i), wanted(i));
        return differences == 0;
    }

    private int wanted(int i) {
        return i < model.hostHas.size() && i < 1000 ? model.hostHas.get(i) : -1;
    }

    private int got(int i) {
        try {
            return board.got(i);
        } catch (NoSuchElementException e) {
            return -1;
        }
    }

    private int differs(String where, String call, int i, int got, int want) {
        CHECKS.due(got == want ? call : where + ": " + call + "(" + i + ")", got, want);
        return got == want ? 0 : 1;
    }
}
