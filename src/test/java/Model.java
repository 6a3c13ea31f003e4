import java.util.ArrayDeque;
import java.util.ArrayList;
import java.util.List;

/**
 * A second reading of the document, sentence by sentence and as slow as it likes: instructions are found by the very
 * patterns of bits that the document writes. RandomRunsTest compares the class with it.
 */
final class Model {
    static final String[] PATTERNS = {
        "ADD  000011rdddddrrrr", "ADC  000111rdddddrrrr", "SUB  000110rdddddrrrr", "SBC  000010rdddddrrrr",
        "CP   000101rdddddrrrr", "CPC  000001rdddddrrrr", "AND  001000rdddddrrrr", "EOR  001001rdddddrrrr",
        "OR   001010rdddddrrrr", "MOV  001011rdddddrrrr", "CPSE 000100rdddddrrrr", "MUL  100111rdddddrrrr",
        "CPI  0011KKKKddddKKKK", "SBCI 0100KKKKddddKKKK", "SUBI 0101KKKKddddKKKK", "ORI  0110KKKKddddKKKK",
        "ANDI 0111KKKKddddKKKK", "LDI  1110KKKKddddKKKK", "MOVW 00000001ddddrrrr", "MULS 00000010ddddrrrr",
        "MULX 00000011xdddyrrr", "COM  1001010ddddd0000", "NEG  1001010ddddd0001", "SWAP 1001010ddddd0010",
        "INC  1001010ddddd0011", "DEC  1001010ddddd1010", "ASR  1001010ddddd0101", "LSR  1001010ddddd0110",
        "ROR  1001010ddddd0111", "ADIW 10010110KKddKKKK", "SBIW 10010111KKddKKKK", "BSET 100101000sss1000",
        "BCLR 100101001sss1000", "BST  1111101ddddd0bbb", "BLD  1111100ddddd0bbb", "SBRC 1111110ddddd0bbb",
        "SBRS 1111111ddddd0bbb", "CBI  10011000AAAAAbbb", "SBI  10011010AAAAAbbb", "SBIC 10011001AAAAAbbb",
        "SBIS 10011011AAAAAbbb", "IN   10110AAdddddAAAA", "OUT  10111AAdddddAAAA", "LDS  1001000ddddd0000",
        "LDZ+ 1001000ddddd0001", "LDY+ 1001000ddddd1001", "LDX+ 1001000ddddd1101", "LD-Z 1001000ddddd0010",
        "LD-Y 1001000ddddd1010", "LD-X 1001000ddddd1110", "LDX  1001000ddddd1100", "POP  1001000ddddd1111",
        "STS  1001001ddddd0000", "STZ+ 1001001ddddd0001", "STY+ 1001001ddddd1001", "STX+ 1001001ddddd1101",
        "ST-Z 1001001ddddd0010", "ST-Y 1001001ddddd1010", "ST-X 1001001ddddd1110", "STX  1001001ddddd1100",
        "PUSH 1001001ddddd1111", "LDD  10q0qq0dddddyqqq", "STD  10q0qq1dddddyqqq", "LPM  1001000ddddd0100",
        "LPM+ 1001000ddddd0101", "LPM0 1001010111001000", "RJMP 1100kkkkkkkkkkkk", "RCAL 1101kkkkkkkkkkkk",
        "BRBS 111100kkkkkkksss", "BRBC 111101kkkkkkksss", "JMP  1001010xxxxx110x", "CALL 1001010xxxxx111x",
        "IJMP 1001010000001001", "ICAL 1001010100001001", "RET  1001010100001000", "RETI 1001010100011000",
        "SLEE 1001010110001000", "WDR  1001010110101000", "SPM  1001010111101000"};
    private static final int[] KIND = new int[65536];

    static {
        for (int w = 0; w < 65536; w++) {
            KIND[w] = -1;
            for (int i = 0; i < PATTERNS.length; i++) {
                if (!matches(PATTERNS[i].substring(5), w)) continue;
                if (KIND[w] >= 0) throw new IllegalStateException("two patterns fit " + Integer.toHexString(w));
                KIND[w] = i;
            }
        }
    }

    final int[] flash = new int[2048];
    final int[] mem = new int[0x500];
    final int[] ee = new int[256];
    final Integer[] buffer = new Integer[32];
    final ArrayDeque<Integer> atHost = new ArrayDeque<>();
    final List<Integer> hostHas = new ArrayList<>();
    final ArrayDeque<Integer> toRead = new ArrayDeque<>();
    int locks = 15;
    int fuse = 1;
    int pins;
    int pc;
    boolean on = true;
    boolean sleeps;
    boolean stepAheadHolds;
    int cycles;
    int steps;
    int entries;
    int dogResets;
    int busy;
    int win57;
    int win60;
    int win55;
    int win3F;
    int count;
    int prescaler;
    int eeLeft;
    Integer waits;
    Integer sending;
    int sendLeft;
    Integer coming;
    int comeLeft;
    private int more;
    private int standsAt;

    Model(int[] loader) {
        for (int i = 0; i < 2048; i++) flash[i] = 0xFFFF;
        for (int i = 0; i < loader.length; i++) flash[0x600 + i] = loader[i];
        for (int i = 0; i < 256; i++) ee[i] = 0xFF;
        resetAll(0);
    }

    static boolean matches(String bits, int w) {
        for (int i = 0; i < 16; i++) {
            char c = bits.charAt(i);
            int bit = w >> (15 - i) & 1;
            if (c == '0' && bit != 0 || c == '1' && bit != 1) return false;
        }
        return true;
    }

    /** The number of the bits that stand at a letter, in order. */
    static int at(String bits, int w, char letter) {
        int n = 0;
        for (int i = 0; i < 16; i++) if (bits.charAt(i) == letter) n = 2 * n + (w >> (15 - i) & 1);
        return n;
    }

    static int bit(int v, int b) {
        return v >> b & 1;
    }

    private void setBit(int address, int b, int one) {
        mem[address] = one != 0 ? mem[address] | 1 << b : mem[address] & ~(1 << b);
    }

    private void flag(int b, boolean one) {
        setBit(0x5F, b, one ? 1 : 0);
    }

    // ---- RESET

    void resetAll(int bitOf54) {
        int was = mem[0x54];
        if (bitOf54 == 0) for (int i = 0; i < 0x500; i++) mem[i] = 0;
        for (int i = 0x20; i < 0x100; i++) mem[i] = 0;
        mem[0xC0] = 0x20;
        mem[0x54] = bitOf54 == 0 ? 1 : was;
        setBit(0x54, bitOf54, 1);
        if (bit(mem[0x54], 3) == 1) setBit(0x60, 3, 1);
        pc = fuse == 1 ? 0x600 : 0;
        sleeps = false;
        prescaler = 0;
        count = 0;
        busy = 0;
        win55 = 0;
        win57 = 0;
        win60 = 0;
        win3F = 0;
        eeLeft = 0;
        waits = null;
        sending = null;
        sendLeft = 0;
        coming = null;
        comeLeft = 0;
        toRead.clear();
        emptyBuffer();
    }

    private void emptyBuffer() {
        for (int i = 0; i < 32; i++) buffer[i] = null;
    }

    int bufferWords() {
        int n = 0;
        for (Integer b : buffer) if (b != null) n++;
        return n;
    }

    // ---- DATA

    int look(int a) {
        if (a < 0 || a > 0x4FF) return 0;
        if (a == 0x23) {
            int v = 0;
            for (int b = 0; b < 8; b++) v |= (bit(mem[0x24], b) == 1 ? bit(mem[0x25], b) : bit(pins, b)) << b;
            return v;
        }
        if (a == 0xC6) return toRead.isEmpty() ? 0 : toRead.peekFirst();
        if (a == 0xC0) return mem[0xC0] & 0x7F | (toRead.isEmpty() ? 0 : 0x80);
        return mem[a];
    }

    int load(int a) {
        int v = look(a);
        if (a == 0xC6) {
            if (!toRead.isEmpty()) toRead.removeFirst();
            setBit(0xC0, 3, 0);
        }
        return v;
    }

    void store(int a, int v) {
        if (a < 0 || a > 0x4FF) return;
        if (a < 0x20 || a > 0xFF) mem[a] = v;
        for (int holds : new int[] {0x24, 0x25, 0x3E, 0x44, 0x45, 0x46, 0x47, 0x4A, 0x4B, 0x5D, 0x5E, 0x5F, 0x6E, 0xC1,
            0xC2, 0xC4, 0xC5}) {
            if (a == holds) mem[a] = v;
        }
        switch (a) {
            case 0x23:
                for (int b = 0; b < 8; b++) if (bit(v, b) == 1) setBit(0x25, b, 1 - bit(mem[0x25], b));
                break;
            case 0x35:
                for (int b = 0; b < 8; b++) if (bit(v, b) == 1) setBit(0x35, b, 0);
                break;
            case 0x3F: store3F(v); break;
            case 0x40: case 0x41:
                if (bit(mem[0x3F], 1) == 0) mem[a] = v;
                break;
            case 0x54:
                for (int b : new int[] {0, 1, 3}) if (bit(v, b) == 0) setBit(0x54, b, 0);
                break;
            case 0x55:
                if (bit(v, 0) == 1) {
                    setBit(0x55, 0, 1);
                    win55 = 4;
                } else {
                    if (bit(mem[0x55], 0) == 1) setBit(0x55, 1, bit(v, 1));
                    setBit(0x55, 0, 0);
                    win55 = 0;
                }
                break;
            case 0x57:
                setBit(0x57, 7, bit(v, 7));
                if (busy > 0) break;
                for (int b = 0; b <= 4; b++) setBit(0x57, b, bit(v, b));
                win57 = bit(v, 0) == 1 ? 4 : 0;
                break;
            case 0x60: store60(v); break;
            case 0xC0:
                setBit(0xC0, 1, bit(v, 1));
                if (bit(v, 6) == 1) setBit(0xC0, 6, 0);
                break;
            case 0xC1:
                if (bit(v, 3) == 0) {
                    waits = null;
                    setBit(0xC0, 5, 1);
                }
                break;
            case 0xC6:
                if (bit(mem[0xC1], 3) == 1 && bit(mem[0xC0], 5) == 1) {
                    waits = v;
                    setBit(0xC0, 5, 0);
                }
                break;
            default: break;
        }
    }

    private void store3F(int v) {
        setBit(0x3F, 3, bit(v, 3));
        int bit2Ahead = bit(mem[0x3F], 2);
        if (bit(v, 2) == 1) {
            setBit(0x3F, 2, 1);
            win3F = 4;
        }
        if (bit(v, 1) == 1 && bit2Ahead == 1 && bit(mem[0x3F], 1) == 0) {
            ee[mem[0x41]] = mem[0x40];
            setBit(0x3F, 1, 1);
            eeLeft = 3400;
            setBit(0x3F, 2, 0);
            win3F = 0;
        }
        if (bit(v, 0) == 1 && bit(mem[0x3F], 1) == 0) {
            mem[0x40] = ee[mem[0x41]];
            more += 4;
        }
    }

    private void store60(int v) {
        if (bit(v, 7) == 1) setBit(0x60, 7, 0);
        setBit(0x60, 6, bit(v, 6));
        if (bit(mem[0x60], 4) == 1 && bit(v, 4) == 0) {
            setBit(0x60, 5, bit(v, 5));
            for (int b = 0; b <= 3; b++) setBit(0x60, b, bit(v, b));
            if (bit(mem[0x54], 3) == 1) setBit(0x60, 3, 1);
            setBit(0x60, 4, 0);
            win60 = 0;
        } else if (bit(v, 4) == 1 && bit(v, 3) == 1) {
            setBit(0x60, 4, 1);
            win60 = 4;
        }
    }

    int sp() {
        return mem[0x5E] * 256 + mem[0x5D];
    }

    private void setSp(int v) {
        mem[0x5E] = Math.floorMod(v, 65536) / 256;
        mem[0x5D] = Math.floorMod(v, 256);
    }

    private void push(int v) {
        int ahead = sp();
        store(ahead, v);
        setSp(ahead - 1);
    }

    private int pop() {
        setSp(sp() + 1);
        return load(sp());
    }

    private void pushPc() {
        int p = pc;
        push(p % 256);
        push(p / 256);
    }

    private void popPc() {
        int high = pop();
        int low = pop();
        pc = (high * 256 + low) % 2048;
    }

    // ---- FLASH

    private int read(int a) {
        return a < 0x600 && bit(mem[0x57], 6) == 1 ? 0xFFFF : flash[a];
    }

    private int byteOfFlash(int z) {
        if (win57 > 0 && (mem[0x57] >> 1 & 15) == 4) {
            win57 = 0;
            mem[0x57] &= 0xE0;
            return z == 1 ? locks + 0xF0 : z == 0 ? fuse + 0xFE : 0xFF;
        }
        int a = z / 2 % 2048;
        boolean inBoot = a >= 0x600;
        boolean standsInBoot = standsAt >= 0x600;
        if (inBoot && bit(locks, 3) == 0 && !standsInBoot) return 0xFF;
        if (!inBoot && bit(locks, 1) == 0 && standsInBoot) return 0xFF;
        return z % 2 == 0 ? read(a) % 256 : read(a) / 256;
    }

    private void storeInFlash(int z) {
        if (standsAt < 0x600 || busy > 0 || win57 == 0) return;
        win57 = 0;
        int r0 = mem[0];
        String bits = "" + bit(mem[0x57], 4) + bit(mem[0x57], 3) + bit(mem[0x57], 2) + bit(mem[0x57], 1);
        boolean keeps = false;
        switch (bits) {
            case "0000":
                if (buffer[z / 2 % 32] == null) buffer[z / 2 % 32] = mem[1] * 256 + r0;
                break;
            case "1000":
                setBit(0x57, 6, 0);
                emptyBuffer();
                break;
            case "0100":
                for (int b = 0; b <= 3; b++) if (bit(r0, b + 2) == 0) locks &= ~(1 << b);
                break;
            case "0001": case "0010":
                keeps = changePage(z / 64 % 64, bits.equals("0001"));
                break;
            default: break;
        }
        if (!keeps) mem[0x57] &= 0xE0;
    }

    private boolean changePage(int page, boolean erase) {
        boolean ofBoot = page >= 48;
        if (bit(locks, ofBoot ? 2 : 0) == 0) return false;
        for (int i = 0; i < 32; i++) {
            if (erase) {
                flash[page * 32 + i] = 0xFFFF;
            } else if (buffer[i] != null) {
                flash[page * 32 + i] &= buffer[i];
            }
        }
        if (!erase) emptyBuffer();
        if (ofBoot) {
            more += 8000;
            return false;
        }
        setBit(0x57, 6, 1);
        busy = 8000;
        return true;
    }

    // ---- A STEP

    int waiting() {
        if (bit(mem[0x5F], 7) == 0) return 0;
        int c0 = look(0xC0);
        boolean[] told = {bit(mem[0x60], 7) == 1 && bit(mem[0x60], 6) == 1, bit(mem[0x35], 1) == 1 && bit(mem[0x6E], 1) == 1,
            bit(mem[0x35], 0) == 1 && bit(mem[0x6E], 0) == 1, bit(c0, 7) == 1 && bit(mem[0xC1], 7) == 1,
            bit(c0, 5) == 1 && bit(mem[0xC1], 5) == 1, bit(c0, 6) == 1 && bit(mem[0xC1], 6) == 1,
            bit(mem[0x3F], 3) == 1 && bit(mem[0x3F], 1) == 0, bit(mem[0x57], 7) == 1 && bit(mem[0x57], 0) == 0};
        for (int n = 1; n <= 8; n++) if (told[n - 1]) return n;
        return 0;
    }

    int step() {
        if (!on) return 0;
        steps++;
        int n = waiting();
        more = 0;
        int due;
        if (sleeps && n == 0) {
            due = 1;
            stepAheadHolds = false;
        } else if (n != 0 && !stepAheadHolds) {
            sleeps = false;
            entries++;
            pushPc();
            if (n == 1) {
                setBit(0x60, 7, 0);
                if (bit(mem[0x60], 3) == 1) setBit(0x60, 6, 0);
            }
            if (n == 2) setBit(0x35, 1, 0);
            if (n == 3) setBit(0x35, 0, 0);
            if (n == 6) setBit(0xC0, 6, 0);
            flag(7, false);
            pc = 2 * n + (bit(mem[0x55], 1) == 1 ? 0x600 : 0);
            due = 4;
            stepAheadHolds = false;
        } else {
            due = instruction();
            due += more;
        }
        int gone = 0;
        while (gone < due) {
            gone++;
            cycles++;
            if (cycle()) {
                dogResets++;
                resetAll(3);
                break;
            }
        }
        return gone;
    }

    // ---- EACH CYCLE

    private boolean cycle() {
        if (win57 > 0 && --win57 == 0) mem[0x57] &= 0xE0;
        if (win60 > 0 && --win60 == 0) setBit(0x60, 4, 0);
        if (win55 > 0 && --win55 == 0) setBit(0x55, 0, 0);
        if (win3F > 0 && --win3F == 0) setBit(0x3F, 2, 0);
        if (busy > 0 && --busy == 0) mem[0x57] &= 0xE0;
        timer();
        line();
        if (eeLeft > 0 && --eeLeft == 0) setBit(0x3F, 1, 0);
        if (bit(mem[0x60], 3) == 0 && bit(mem[0x60], 6) == 0) {
            count = 0;
            return false;
        }
        count++;
        int period = bit(mem[0x60], 5) * 8 + (mem[0x60] & 7);
        if (count < 4096L * (long) Math.pow(2, Math.min(11, period))) return false;
        count = 0;
        if (bit(mem[0x60], 6) == 0) return true;
        setBit(0x60, 7, 1);
        return false;
    }

    private void timer() {
        prescaler = (prescaler + 1) % 1024;
        int lowest = new int[] {-1, 0, 3, 6, 8, 10, -1, -1}[mem[0x45] & 7];
        if (lowest < 0 || prescaler % (1 << lowest) != 0) return;
        if (bit(mem[0x44], 1) == 1 && mem[0x46] == mem[0x47]) {
            mem[0x46] = 0;
        } else {
            mem[0x46] = (mem[0x46] + 1) % 256;
            if (mem[0x46] == 0) setBit(0x35, 0, 1);
        }
        if (mem[0x46] == mem[0x47]) setBit(0x35, 1, 1);
    }

    private int frame() {
        return ((mem[0xC5] & 15) * 256 + mem[0xC4] + 1) * (bit(mem[0xC0], 1) == 1 ? 80 : 160);
    }

    private void line() {
        if (sending == null && waits != null) {
            sending = waits;
            waits = null;
            sendLeft = frame();
            setBit(0xC0, 5, 1);
        } else if (sending != null && --sendLeft == 0) {
            hostHas.add(sending);
            sending = null;
            if (waits == null) setBit(0xC0, 6, 1);
        }
        if (coming == null && !atHost.isEmpty()) {
            coming = atHost.removeFirst();
            comeLeft = frame();
        } else if (coming != null && --comeLeft == 0) {
            boolean receiver = bit(mem[0xC1], 4) == 1;
            if (receiver && toRead.size() < 2) {
                toRead.addLast(coming);
            } else if (receiver) {
                setBit(0xC0, 3, 1);
            }
            coming = null;
        }
    }

    // ---- INSTRUCTIONS

    private int next() {
        int w = read(pc);
        pc = (pc + 1) % 2048;
        return w;
    }

    private static int s8(int v) {
        return (byte) v;
    }

    private int addFlags(int x, int y, int c) {
        flag(5, x % 16 + y % 16 + c >= 16);
        flag(0, x + y + c >= 256);
        int r = (x + y + c) % 256;
        int exact = s8(x) + s8(y) + c;
        signs(r >= 128, r == 0, exact != s8(exact));
        return r;
    }

    private int subFlags(int x, int y, int c, boolean oldZ) {
        int z = bit(mem[0x5F], 1);
        flag(5, x % 16 < y % 16 + c);
        flag(0, x < y + c);
        int r = Math.floorMod(x - y - c, 256);
        int exact = s8(x) - s8(y) - c;
        signs(r >= 128, r == 0, exact != s8(exact));
        if (oldZ && z == 0) flag(1, false);
        return r;
    }

    private void signs(boolean n, boolean z, boolean v) {
        flag(2, n);
        flag(1, z);
        flag(3, v);
        flag(4, n ^ v);
    }

    private int logic(int r) {
        signs(r >= 128, r == 0, false);
        return r;
    }

    private int word(int low) {
        return mem[low + 1] * 256 + mem[low];
    }

    private void word(int low, int v) {
        mem[low] = Math.floorMod(v, 256);
        mem[low + 1] = Math.floorMod(v, 65536) / 256;
    }

    private int multiplied(int product, boolean twice) {
        int r = Math.floorMod(twice ? 2 * product : product, 65536);
        word(0, r);
        flag(0, bit(Math.floorMod(product, 65536), 15) == 1);
        flag(1, r == 0);
        return 2;
    }

    private int skip(boolean yes) {
        if (!yes) return 1;
        int w = next();
        if (!matches("100100xxxxxx0000", w) && !matches("1001010xxxxx11xx", w)) return 2;
        next();
        return 3;
    }

    private int shifted(int d, int in) {
        int r = mem[d] / 2 + 128 * in;
        boolean c = mem[d] % 2 == 1;
        flag(0, c);
        signs(r >= 128, r == 0, r >= 128 ^ c);
        mem[d] = r;
        return 1;
    }

    private int loaded(int d, int a) {
        mem[d] = load(a);
        return 2;
    }

    private int loadedThen(int d, int low) {
        int v = load(word(low));
        word(low, word(low) + 1);
        mem[d] = v;
        return 2;
    }

    private int loadedAhead(int d, int low) {
        word(low, word(low) - 1);
        return loaded(d, word(low));
    }

    private int storedThen(int d, int low) {
        store(word(low), mem[d]);
        word(low, word(low) + 1);
        return 2;
    }

    private int storedAhead(int d, int low) {
        int v = mem[d];
        word(low, word(low) - 1);
        store(word(low), v);
        return 2;
    }

    private int stored(int d, int a) {
        store(a, mem[d]);
        return 2;
    }

    private int jumped(int k, int bits, int due) {
        pc = Math.floorMod(pc + (k >= 1 << (bits - 1) ? k - (1 << bits) : k), 2048);
        return due;
    }

    private int instruction() {
        standsAt = pc;
        int w = next();
        stepAheadHolds = w == 0x9478 || matches("1001010100011000", w);
        if (KIND[w] < 0) return 1;
        String p = PATTERNS[KIND[w]].substring(5);
        boolean four = p.contains("dddd") && !p.contains("ddddd");
        int d = at(p, w, 'd') + (four ? 16 : 0);
        int r = at(p, w, 'r');
        int k = at(p, w, 'K');
        int b = at(p, w, 'b');
        int s = at(p, w, 's');
        int port = at(p, w, 'A') + 0x20;
        int c = bit(mem[0x5F], 0);
        int x = mem[d];
        int y = mem[r];
        switch (PATTERNS[KIND[w]].substring(0, 4).trim()) {
            case "ADD": mem[d] = addFlags(x, y, 0); return 1;
            case "ADC": mem[d] = addFlags(x, y, c); return 1;
            case "SUB": mem[d] = subFlags(x, y, 0, false); return 1;
            case "SBC": mem[d] = subFlags(x, y, c, true); return 1;
            case "CP": subFlags(x, y, 0, false); return 1;
            case "CPC": subFlags(x, y, c, true); return 1;
            case "AND": mem[d] = logic(x & y); return 1;
            case "EOR": mem[d] = logic(x ^ y); return 1;
            case "OR": mem[d] = logic(x | y); return 1;
            case "MOV": mem[d] = y; return 1;
            case "CPSE": return skip(x == y);
            case "MUL": return multiplied(x * y, false);
            case "CPI": subFlags(x, k, 0, false); return 1;
            case "SBCI": mem[d] = subFlags(x, k, c, true); return 1;
            case "SUBI": mem[d] = subFlags(x, k, 0, false); return 1;
            case "ORI": mem[d] = logic(x | k); return 1;
            case "ANDI": mem[d] = logic(x & k); return 1;
            case "LDI": mem[d] = k; return 1;
            case "MOVW": {
                int low = mem[2 * r];
                int high = mem[2 * r + 1];
                mem[2 * (d - 16)] = low;
                mem[2 * (d - 16) + 1] = high;
                return 1;
            }
            case "MULS": return multiplied(s8(x) * s8(mem[16 + r]), false);
            case "MULX": {
                int f = mem[16 + at(p, w, 'd')];
                int g = mem[16 + r];
                int kind = at(p, w, 'x') * 2 + at(p, w, 'y');
                if (kind == 0) return multiplied(s8(f) * g, false);
                if (kind == 1) return multiplied(f * g, true);
                if (kind == 2) return multiplied(s8(f) * s8(g), true);
                return multiplied(s8(f) * g, true);
            }
            case "COM":
                mem[d] = logic(255 - x);
                flag(0, true);
                return 1;
            case "NEG": mem[d] = subFlags(0, x, 0, false); return 1;
            case "SWAP": mem[d] = x % 16 * 16 + x / 16; return 1;
            case "INC":
                mem[d] = (x + 1) % 256;
                signs(mem[d] >= 128, mem[d] == 0, mem[d] == 0x80);
                return 1;
            case "DEC":
                mem[d] = (x + 255) % 256;
                signs(mem[d] >= 128, mem[d] == 0, mem[d] == 0x7F);
                return 1;
            case "ASR": return shifted(d, x / 128);
            case "LSR": return shifted(d, 0);
            case "ROR": return shifted(d, c);
            case "ADIW": case "SBIW": {
                int low = 24 + 2 * at(p, w, 'd');
                int was = word(low);
                boolean add = matches("10010110xxxxxxxx", w);
                int exact = add ? was + k : was - k;
                word(low, exact);
                int is = word(low);
                flag(0, exact > 65535 || exact < 0);
                signs(is >= 32768, is == 0, add ? was < 32768 && is >= 32768 : was >= 32768 && is < 32768);
                return 2;
            }
            case "BSET": flag(s, true); return 1;
            case "BCLR": flag(s, false); return 1;
            case "BST": flag(6, bit(x, b) == 1); return 1;
            case "BLD": setBit(d, b, bit(mem[0x5F], 6)); return 1;
            case "SBRC": return skip(bit(x, b) == 0);
            case "SBRS": return skip(bit(x, b) == 1);
            case "CBI":
                if (port != 0x23 && port != 0x35) store(port, load(port) & ~(1 << b));
                return 2;
            case "SBI":
                if (port == 0x23 || port == 0x35) {
                    store(port, 1 << b);
                } else {
                    store(port, load(port) | 1 << b);
                }
                return 2;
            case "SBIC": return skip(bit(load(port), b) == 0);
            case "SBIS": return skip(bit(load(port), b) == 1);
            case "IN": mem[d] = load(port); return 1;
            case "OUT": store(port, x); return 1;
            case "LDS": return loaded(d, next());
            case "LDZ+": return loadedThen(d, 30);
            case "LDY+": return loadedThen(d, 28);
            case "LDX+": return loadedThen(d, 26);
            case "LD-Z": return loadedAhead(d, 30);
            case "LD-Y": return loadedAhead(d, 28);
            case "LD-X": return loadedAhead(d, 26);
            case "LDX": return loaded(d, word(26));
            case "POP": mem[d] = pop(); return 2;
            case "STS": return stored(d, next());
            case "STZ+": return storedThen(d, 30);
            case "STY+": return storedThen(d, 28);
            case "STX+": return storedThen(d, 26);
            case "ST-Z": return storedAhead(d, 30);
            case "ST-Y": return storedAhead(d, 28);
            case "ST-X": return storedAhead(d, 26);
            case "STX": return stored(d, word(26));
            case "PUSH": push(x); return 2;
            case "LDD": return loaded(d, (word(at(p, w, 'y') == 1 ? 28 : 30) + at(p, w, 'q')) % 65536);
            case "STD": return stored(d, (word(at(p, w, 'y') == 1 ? 28 : 30) + at(p, w, 'q')) % 65536);
            case "LPM": mem[d] = byteOfFlash(word(30)); return 3;
            case "LPM+": {
                int v = byteOfFlash(word(30));
                word(30, word(30) + 1);
                mem[d] = v;
                return 3;
            }
            case "LPM0": mem[0] = byteOfFlash(word(30)); return 3;
            case "RJMP": return jumped(at(p, w, 'k'), 12, 2);
            case "RCAL": pushPc(); return jumped(at(p, w, 'k'), 12, 3);
            case "BRBS": return bit(mem[0x5F], s) == 1 ? jumped(at(p, w, 'k'), 7, 2) : 1;
            case "BRBC": return bit(mem[0x5F], s) == 0 ? jumped(at(p, w, 'k'), 7, 2) : 1;
            case "JMP": pc = next() % 2048; return 3;
            case "CALL": {
                int to = next() % 2048;
                pushPc();
                pc = to;
                return 4;
            }
            case "IJMP": pc = word(30) % 2048; return 2;
            case "ICAL": pushPc(); pc = word(30) % 2048; return 3;
            case "RET": popPc(); return 4;
            case "RETI": popPc(); flag(7, true); return 4;
            case "SLEE": sleeps = true; return 1;
            case "WDR": count = 0; return 1;
            case "SPM": storeInFlash(word(30)); return 1;
            default: throw new IllegalStateException(PATTERNS[KIND[w]]);
        }
    }

    int about(int what) {
        switch (what) {
            case 0: return pc;
            case 1: return sp();
            case 2: return sleeps ? 1 : 0;
            case 3: return cycles;
            case 4: return steps;
            case 5: return entries;
            case 6: return dogResets;
            case 7: return busy;
            case 8: return bufferWords();
            case 9: return count;
            case 10: return prescaler;
            case 11: return atHost.size();
            case 12: return toRead.size();
            case 13: return sendLeft;
            case 14: return comeLeft;
            case 15: return eeLeft;
            case 16: return win57;
            case 17: return win60;
            case 18: return win55;
            case 19: return win3F;
            case 20: return on ? 1 : 0;
            default: return waiting();
        }
    }
}
