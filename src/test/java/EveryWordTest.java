import java.util.Random;

/** Each of the 65536 words as an instruction, thrice, from random registers, beside the Model. */
public final class EveryWordTest {
    private static final Checks C = new Checks();
    private static final int TIMES = 3;
    /** A board is used for few words, so that it stays within its 512 calls. */
    private static final int WORDS_OF_A_BOARD = 6;

    private final Random random = new Random(5);
    private final int[] loader = new int[0x200];
    private FlashBoard board;
    private Model model;
    private int done;

    public static void main(String[] args) {
        EveryWordTest test = new EveryWordTest();
        FlashBoard first = new FlashBoard();
        for (int i = 0; i < 0x200; i++) test.loader[i] = first.word(0x600 + i);
        for (int i = 0; i < TIMES; i++) {
            for (int w = 0; w < 65536; w++) test.one(w);
        }
        C.end();
    }

    private void newBoard() {
        board = new FlashBoard();
        model = new Model(loader);
        for (int d = 0; d < 32; d++) put(d, random.nextInt(256));
    }

    private void put(int a, int v) {
        board.put(a, v);
        model.mem[a] = v & 255;
    }

    /** Mostly in RAM, else among the registers, or anywhere. */
    private void pair(int low) {
        int kind = random.nextInt(8);
        int to = kind < 5 ? 0x100 + random.nextInt(0x400) : kind < 7 ? random.nextInt(0x100) : random.nextInt(65536);
        put(low, to);
        put(low + 1, to >> 8);
    }

    private void one(int w) {
        if (done % WORDS_OF_A_BOARD == 0) newBoard();
        done++;
        for (int low = 26; low < 32; low += 2) pair(low);
        pair(0x5D);
        put(0x5F, random.nextInt(128));
        put(random.nextInt(32), random.nextInt(4) == 0 ? 0x80 : random.nextInt(4) == 0 ? 0 : 0x7F);
        int at = random.nextInt(0x800);
        int[] words = {w, random.nextInt(65536), random.nextInt(4) == 0 ? 0x9000 : random.nextInt(65536), random.nextInt(65536)};
        board.burn(at, words[0] << 16 | words[1], words[2] << 16 | words[3], 0, 0, 0);
        for (int i = 0; i < 10; i++) if (at + i < 0x800) model.flash[at + i] = i < 4 ? words[i] : 0;
        board.start(at);
        model.pc = at;
        model.sleeps = false;
        step(w);
    }

    private void step(int w) {
        String name = Integer.toHexString(w);
        int[] ahead = model.mem.clone();
        same(name, "step", board.step(), model.step());
        same(name, "PC", board.about(0), model.about(0));
        same(name, "SP", board.about(1), model.about(1));
        same(name, "whether it SLEEPS", board.about(2), model.about(2));
        same(name, "SREG", board.data(0x5F), model.mem[0x5F]);
        for (int d = 0; d < 32; d++) same(name, "a register", board.data(d), model.mem[d]);
        for (int a = 0x20; a < 0x500; a++) {
            if (model.mem[a] != ahead[a]) same(name, "what is STORED", board.data(a), model.look(a));
        }
    }

    private static void same(String word, String what, int got, int want) {
        C.due(got == want ? what : word + ": " + what, got, want);
    }
}
