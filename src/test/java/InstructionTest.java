/** Instructions by their words: results, flags, cycles, PC, each with numbers worked out by hand. */
public final class InstructionTest {
    private static final Checks C = new Checks();
    private static final int I = 0x80, T = 0x40, H = 0x20, S = 0x10, V = 8, N = 4, Z = 2, CY = 1;

    private static int[] words(int... w) {
        return w;
    }

    private static int[] at(int... addressesAndBytes) {
        return addressesAndBytes;
    }

    /** One instruction at address 40: SREG ahead, bytes put, its cycles, PC, SREG, bytes due. */
    private static FlashBoard one(String name, int[] words, int sreg, int[] put, int[] cyclesPcSreg, int[] due) {
        FlashBoard b = new FlashBoard();
        new Code().w(words).burn(b, 0x40);
        b.start(0x40);
        b.put(0x5D, 0xFF);
        b.put(0x5E, 0x04);
        b.put(0x5F, sreg);
        for (int i = 0; i < put.length; i += 2) b.put(put[i], put[i + 1]);
        C.due(name + ": cycles", b.step(), cyclesPcSreg[0]);
        C.due(name + ": PC", b.about(0), cyclesPcSreg[1]);
        C.due(name + ": SREG", b.data(0x5F), cyclesPcSreg[2]);
        for (int i = 0; i < due.length; i += 2) C.due(name + ": data " + due[i], b.data(due[i]), due[i + 1]);
        return b;
    }

    public static void main(String[] args) {
        additions();
        subtractions();
        numbers();
        logic();
        products();
        ofOne();
        pairs();
        allSums();
        allBytes();
        allPairs();
        bits();
        skips();
        ports();
        loads();
        stores();
        ownPairs();
        atDistance();
        stack();
        jumps();
        nothing();
        C.end();
    }

    private static void additions() {
        one("ADD R16, R17", words(0x0F01), 0, at(16, 0x0F, 17, 0x01), at(1, 0x41, H), at(16, 0x10));
        one("ADD to 0", words(0x0F01), CY, at(16, 0xFF, 17, 0x01), at(1, 0x41, H | Z | CY), at(16, 0));
        one("ADD 7F + 1", words(0x0F01), 0, at(16, 0x7F, 17, 0x01), at(1, 0x41, H | V | N), at(16, 0x80));
        one("ADD 80 + 80", words(0x0F01), I | T, at(16, 0x80, 17, 0x80), at(1, 0x41, I | T | S | V | Z | CY), at(16, 0));
        one("ADD F0 + F0", words(0x0F01), 0, at(16, 0xF0, 17, 0xF0), at(1, 0x41, S | N | CY), at(16, 0xE0));
        one("ADD R0, R31", words(0x0E0F), 0, at(0, 1, 31, 2), at(1, 0x41, 0), at(0, 3, 31, 2));
        one("ADC without C", words(0x1F01), 0, at(16, 1, 17, 2), at(1, 0x41, 0), at(16, 3));
        one("ADC 7E + 1 + C", words(0x1F01), CY, at(16, 0x7E, 17, 1), at(1, 0x41, H | V | N), at(16, 0x80));
        one("ADC 0F + F0 + C", words(0x1F01), CY, at(16, 0x0F, 17, 0xF0), at(1, 0x41, H | Z | CY), at(16, 0));
    }

    private static void subtractions() {
        one("SUB", words(0x1B01), CY, at(16, 0x10, 17, 1), at(1, 0x41, H), at(16, 0x0F));
        one("SUB 80 - 1", words(0x1B01), 0, at(16, 0x80, 17, 1), at(1, 0x41, H | S | V), at(16, 0x7F));
        one("SUB 0 - 1", words(0x1B01), 0, at(16, 0, 17, 1), at(1, 0x41, H | S | N | CY), at(16, 0xFF));
        one("SUB 7F - FF", words(0x1B01), 0, at(16, 0x7F, 17, 0xFF), at(1, 0x41, V | N | CY), at(16, 0x80));
        one("SUB to 0", words(0x1B01), 0, at(16, 5, 17, 5), at(1, 0x41, Z), at(16, 0));
        one("SBC to 0, Z was 1", words(0x0B01), Z | CY, at(16, 5, 17, 4), at(1, 0x41, Z), at(16, 0));
        one("SBC to 0, Z was 0", words(0x0B01), CY, at(16, 5, 17, 4), at(1, 0x41, 0), at(16, 0));
        one("SBC not to 0, Z was 1", words(0x0B01), Z, at(16, 5, 17, 4), at(1, 0x41, 0), at(16, 1));
        one("SBC borrows", words(0x0B01), CY, at(16, 0, 17, 0xFF), at(1, 0x41, H | CY), at(16, 0));
        one("CP", words(0x1701), 0, at(16, 1, 17, 2), at(1, 0x41, H | S | N | CY), at(16, 1));
        one("CP is", words(0x1701), 0, at(16, 9, 17, 9), at(1, 0x41, Z), at(16, 9));
        one("CPC, OLD Z 0", words(0x0701), CY, at(16, 3, 17, 2), at(1, 0x41, 0), at(16, 3));
        one("CPC, OLD Z 1", words(0x0701), Z | CY, at(16, 3, 17, 2), at(1, 0x41, Z), at(16, 3));
        one("NEG", words(0x9501), 0, at(16, 1), at(1, 0x41, H | S | N | CY), at(16, 0xFF));
        one("NEG 80", words(0x9501), 0, at(16, 0x80), at(1, 0x41, V | N | CY), at(16, 0x80));
        one("NEG 0", words(0x9501), CY, at(16, 0), at(1, 0x41, Z), at(16, 0));
    }

    private static void numbers() {
        one("CPI R17, 23", words(0x3213), 0, at(17, 0x23, 16, 1), at(1, 0x41, Z), at(17, 0x23));
        one("CPI less", words(0x3213), 0, at(17, 0x22), at(1, 0x41, H | S | N | CY), at(17, 0x22));
        one("SBCI", words(0x4213), Z | CY, at(17, 0x24), at(1, 0x41, Z), at(17, 0));
        one("SBCI, OLD Z", words(0x4213), CY, at(17, 0x24), at(1, 0x41, 0), at(17, 0));
        one("SUBI", words(0x5213), CY, at(17, 0x24), at(1, 0x41, 0), at(17, 1));
        one("ORI", words(0x6281), V | CY | H, at(24, 0x50), at(1, 0x41, CY | H), at(24, 0x71));
        one("ANDI", words(0x7F80), V | CY, at(24, 0x9F), at(1, 0x41, S | N | CY), at(24, 0x90));
        one("LDI R31", words(0xEAF5), Z, at(31, 1), at(1, 0x41, Z), at(31, 0xA5));
    }

    private static void logic() {
        one("AND", words(0x2301), H | V | CY, at(16, 0xF0, 17, 0x8F), at(1, 0x41, H | S | N | CY), at(16, 0x80));
        one("AND 0", words(0x2301), V | N | S, at(16, 0xF0, 17, 0x0F), at(1, 0x41, Z), at(16, 0));
        one("EOR", words(0x2701), V, at(16, 0xFF, 17, 0x0F), at(1, 0x41, S | N), at(16, 0xF0));
        one("EOR itself", words(0x2700), 0, at(16, 0x55), at(1, 0x41, Z), at(16, 0));
        one("OR", words(0x2B01), V | Z, at(16, 0x40, 17, 2), at(1, 0x41, 0), at(16, 0x42));
        one("MOV", words(0x2F01), 0xFF, at(16, 1, 17, 0), at(1, 0x41, 0xFF), at(16, 0));
        one("MOVW R30, R2", words(0x01F1), 0xFF, at(2, 0x12, 3, 0x34), at(1, 0x41, 0xFF), at(30, 0x12, 31, 0x34));
    }

    private static void products() {
        one("MUL", words(0x9F01), N | V, at(16, 0xFF, 17, 0xFF), at(2, 0x41, N | V | CY), at(0, 1, 1, 0xFE));
        one("MUL 0", words(0x9F01), CY, at(16, 0xFF, 17, 0, 0, 9, 1, 9), at(2, 0x41, Z), at(0, 0, 1, 0));
        one("MUL odd, C 0", words(0x9F01), CY, at(16, 3, 17, 5), at(2, 0x41, 0), at(0, 15, 1, 0));
        one("MUL R1, R0", words(0x9C10), 0, at(0, 0x10, 1, 0x21), at(2, 0x41, 0), at(0, 0x10, 1, 2));
        one("MULS -1 * 2", words(0x0201), 0, at(16, 0xFF, 17, 2), at(2, 0x41, CY), at(0, 0xFE, 1, 0xFF));
        one("MULS R31, R16", words(0x02F0), 0, at(31, 0x80, 16, 0x80), at(2, 0x41, 0), at(0, 0, 1, 0x40));
        one("MULSU -1 * FF", words(0x0301), 0, at(16, 0xFF, 17, 0xFF), at(2, 0x41, CY), at(0, 1, 1, 0xFF));
        one("MULSU R17, R23", words(0x0317), 0, at(16, 9, 17, 0xFE, 22, 9, 23, 3), at(2, 0x41, CY), at(0, 0xFA, 1, 0xFF));
        one("FMUL C0 * C0", words(0x0309), 0, at(16, 0xC0, 17, 0xC0), at(2, 0x41, CY), at(0, 0, 1, 0x20));
        one("FMUL 80 * 80", words(0x0309), CY, at(16, 0x80, 17, 0x80), at(2, 0x41, 0), at(0, 0, 1, 0x80));
        one("FMULS 80 * 80", words(0x0381), 0, at(16, 0x80, 17, 0x80), at(2, 0x41, 0), at(0, 0, 1, 0x80));
        one("FMULS -1 * 1", words(0x03F6), 0, at(23, 0xFF, 22, 1), at(2, 0x41, CY), at(0, 0xFE, 1, 0xFF));
        one("FMULSU -1 * FF", words(0x0389), 0, at(16, 0xFF, 17, 0xFF), at(2, 0x41, CY), at(0, 2, 1, 0xFE));
    }

    private static void ofOne() {
        one("COM", words(0x9500), V, at(16, 0x55), at(1, 0x41, S | N | CY), at(16, 0xAA));
        one("COM FF", words(0x9500), 0, at(16, 0xFF), at(1, 0x41, Z | CY), at(16, 0));
        one("SWAP", words(0x9502), 0xFF, at(16, 0xA1), at(1, 0x41, 0xFF), at(16, 0x1A));
        one("INC 7F", words(0x9503), CY | H, at(16, 0x7F), at(1, 0x41, CY | H | V | N), at(16, 0x80));
        one("INC FF", words(0x9503), CY, at(16, 0xFF), at(1, 0x41, CY | Z), at(16, 0));
        one("DEC 80", words(0x950A), CY, at(16, 0x80), at(1, 0x41, CY | S | V), at(16, 0x7F));
        one("DEC 0", words(0x950A), 0, at(16, 0), at(1, 0x41, S | N), at(16, 0xFF));
        one("ASR 81", words(0x9505), H, at(16, 0x81), at(1, 0x41, H | S | N | CY), at(16, 0xC0));
        one("ASR 80", words(0x9505), 0, at(16, 0x80), at(1, 0x41, V | N), at(16, 0xC0));
        one("LSR 1", words(0x9506), 0, at(16, 1), at(1, 0x41, S | V | Z | CY), at(16, 0));
        one("LSR 2", words(0x9506), CY, at(16, 2), at(1, 0x41, 0), at(16, 1));
        one("ROR in", words(0x9507), CY, at(16, 2), at(1, 0x41, V | N), at(16, 0x81));
        one("ROR out", words(0x9507), 0, at(16, 3), at(1, 0x41, S | V | CY), at(16, 1));
    }

    private static void pairs() {
        one("ADIW R25 R24, 3F", words(0x96CF), H, at(24, 0xC1, 25, 0xFF), at(2, 0x41, H | Z | CY), at(24, 0, 25, 0));
        one("ADIW 7FFF", words(0x9611), 0, at(26, 0xFF, 27, 0x7F), at(2, 0x41, V | N), at(26, 0, 27, 0x80));
        one("SBIW R31 R30, 1", words(0x9731), 0, at(30, 0, 31, 0), at(2, 0x41, S | N | CY), at(30, 0xFF, 31, 0xFF));
        one("SBIW 8000", words(0x9721), 0, at(28, 0, 29, 0x80), at(2, 0x41, S | V), at(28, 0xFF, 29, 0x7F));
        one("ADIW 4", words(0x9604), 0, at(24, 0, 25, 1), at(2, 0x41, 0), at(24, 4, 25, 1));
        one("ADIW 10", words(0x9640), 0, at(24, 0, 25, 1), at(2, 0x41, 0), at(24, 0x10, 25, 1));
        one("ADIW 20", words(0x9680), 0, at(24, 0, 25, 1), at(2, 0x41, 0), at(24, 0x20, 25, 1));
        one("SBIW 0F", words(0x970F), 0, at(24, 0, 25, 1), at(2, 0x41, 0), at(24, 0xF1, 25, 0));
        one("SBIW to 0", words(0x97CF), 0, at(24, 0x3F, 25, 0), at(2, 0x41, Z), at(24, 0, 25, 0));
    }

    private static int flags(boolean h, boolean n, boolean v, boolean z, boolean c) {
        return (h ? H : 0) | (n != v ? S : 0) | (v ? V : 0) | (n ? N : 0) | (z ? Z : 0) | (c ? CY : 0);
    }

    /** ADC and SBC of R16, R17 with every x, y, C and Z. */
    private static void allSums() {
        Code code = new Code().w(0x1F01, 0x0B01);
        FlashBoard b = code.board(0);
        for (int i = 0; i < 0x40000; i++) {
            // A board is used for 512 calls at most.
            if (i % 32 == 0) b = code.board(0);
            int x = i & 255;
            int y = i >> 8 & 255;
            // The flags that become 0 were 1 in every other sum.
            int sreg = i >> 16 | (x + y) % 2 * (H | S | V | N);
            int c = sreg & 1;
            int sum = x + y + c;
            boolean v = (byte) x + (byte) y + c != (byte) sum;
            step(b, 0, x, y, sreg);
            C.due("ADC", b.data(16), sum & 255);
            C.due("ADC: SREG", b.data(0x5F), flags((x & 15) + (y & 15) + c > 15, (sum & 128) != 0, v, (sum & 255) == 0, sum > 255));
            int rest = x - y - c;
            v = (byte) x - (byte) y - c != (byte) rest;
            step(b, 1, x, y, sreg);
            C.due("SBC", b.data(16), rest & 255);
            boolean z = (rest & 255) == 0 && (sreg & 2) != 0;
            C.due("SBC: SREG", b.data(0x5F), flags((x & 15) < (y & 15) + c, (rest & 128) != 0, v, z, rest < 0));
        }
    }

    private static void step(FlashBoard b, int address, int x, int y, int sreg) {
        b.start(address);
        b.put(16, x);
        b.put(17, y);
        b.put(0x5F, sreg);
        b.step();
    }

    /** What one byte becomes, for each byte, with flags that were 0 and that were 1. */
    private static void allBytes() {
        for (int i = 0; i < 512; i++) {
            int x = i & 255;
            int sreg = i < 256 ? 0 : 0xFF;
            int kept = sreg & (I | T | H);
            int c = sreg & CY;
            ofByte("COM", 0x9500, x, sreg, 255 - x, kept | CY, false);
            ofByte("INC", 0x9503, x, sreg, x + 1 & 255, kept | c, x == 0x7F);
            ofByte("DEC", 0x950A, x, sreg, x - 1 & 255, kept | c, x == 0x80);
            int out = x % 2;
            ofByte("ASR", 0x9505, x, sreg, x / 2 | x & 128, kept | out * CY, x >= 128 != (out == 1));
            ofByte("LSR", 0x9506, x, sreg, x / 2, kept | out * CY, out == 1);
            ofByte("ROR", 0x9507, x, sreg, x / 2 | c * 128, kept | out * CY, c != out);
            ofByte("AND itself", 0x2300, x, sreg, x, kept | c, false);
            ofByte("ANDI 5A", 0x750A, x, sreg, x & 0x5A, kept | c, false);
            ofByte("ORI A5", 0x6A05, x, sreg, x | 0xA5, kept | c, false);
            one("SWAP", words(0x9502), sreg, at(16, x), at(1, 0x41, sreg), at(16, x % 16 * 16 + x / 16));
        }
    }

    /** N, Z by the result, V as told, S N other than V; all other flags as told. */
    private static void ofByte(String name, int word, int x, int sreg, int result, int others, boolean v) {
        boolean n = result >= 128;
        int want = others | (v ? V : 0) | (n ? N : 0) | (n != v ? S : 0) | (result == 0 ? Z : 0);
        one(name + " " + x, words(word), sreg, at(16, x), at(1, 0x41, want), at(16, result));
    }

    /** ADIW, SBIW by 1 and 3F of every pair. */
    private static void allPairs() {
        Code code = new Code().w(0x9601, 0x96CF, 0x9701, 0x97CF);
        FlashBoard b = code.board(0);
        for (int i = 0; i < 0x40000; i++) {
            if (i % 32 == 0) b = code.board(0);
            int pair = i & 0xFFFF;
            int which = i >> 16;
            int exact = pair + (which < 2 ? 1 : -1) * (which % 2 == 0 ? 1 : 0x3F);
            b.start(which);
            b.put(24, pair);
            b.put(25, pair >> 8);
            b.put(0x5F, pair % 3 == 0 ? S | V | N | Z | CY : 0);
            b.step();
            C.due("pair", b.data(25) << 8 | b.data(24), exact & 0xFFFF);
            boolean n = (exact & 0x8000) != 0;
            boolean v = n != ((pair & 0x8000) != 0) && n == which < 2;
            C.due("pair: SREG", b.data(0x5F), flags(false, n, v, (exact & 0xFFFF) == 0, exact != (exact & 0xFFFF)));
        }
    }

    private static void bits() {
        for (int s = 0; s < 8; s++) {
            one("bit " + s + " is 1", words(0x9408 | s << 4), 0, at(), at(1, 0x41, 1 << s), at());
            one("bit " + s + " is 1, as all others", words(0x9408 | s << 4), 0xFF ^ 1 << s, at(), at(1, 0x41, 0xFF), at());
            one("bit " + s + " is 0, as all others", words(0x9488 | s << 4), 1 << s, at(), at(1, 0x41, 0), at());
            one("bit " + s + " is 0", words(0x9488 | s << 4), 0xFF, at(), at(1, 0x41, 0xFF ^ 1 << s), at());
        }
        one("BST R5, 3 of 8", words(0xFA53), 0, at(5, 8), at(1, 0x41, T), at(5, 8));
        one("BST R5, 3 of F7", words(0xFA53), 0xFF, at(5, 0xF7), at(1, 0x41, 0xBF), at(5, 0xF7));
        one("BLD R21, 7", words(0xF957), T, at(21, 0), at(1, 0x41, T), at(21, 0x80));
        one("BLD R21, 0", words(0xF950), 0, at(21, 0xFF), at(1, 0x41, 0), at(21, 0xFE));
        for (int n = 0; n < 8; n++) {
            int bit = 1 << n;
            one("BLD 0 of FF, " + n, words(0xF950 | n), CY, at(21, 0xFF), at(1, 0x41, CY), at(21, 0xFF ^ bit));
            one("BLD 1 of 0, " + n, words(0xF950 | n), T, at(21, 0), at(1, 0x41, T), at(21, bit));
            one("BST 1 alone, " + n, words(0xFA50 | n), 0, at(5, bit), at(1, 0x41, T), at(5, bit));
            one("BST 0 alone, " + n, words(0xFA50 | n), 0, at(5, 0xFF ^ bit), at(1, 0x41, 0), at(5, 0xFF ^ bit));
        }
        one("BST with bit 3", words(0xFA5B), 0, at(5, 8), at(1, 0x41, 0), at());
        one("BLD with bit 3", words(0xF95F), T, at(21, 0), at(1, 0x41, T), at(21, 0));
    }

    private static void skips() {
        one("CPSE no", words(0x1301, 0), Z, at(16, 1, 17, 2), at(1, 0x41, Z), at());
        one("CPSE yes", words(0x1301, 0), 0, at(16, 2, 17, 2), at(2, 0x42, 0), at());
        one("CPSE over STS", words(0x1301, 0x9300, 0x0111), 0, at(16, 2, 17, 2), at(3, 0x43, 0), at(0x111, 0));
        one("CPSE over LDS", words(0x1301, 0x9010, 0x0111), 0, at(16, 2, 17, 2), at(3, 0x43, 0), at());
        one("CPSE over JMP", words(0x1301, 0x940C, 0x0111), 0, at(16, 2, 17, 2), at(3, 0x43, 0), at());
        one("CPSE over CALL", words(0x1301, 0x95FF, 0x0111), 0, at(16, 2, 17, 2), at(3, 0x43, 0), at());
        one("CPSE over LD", words(0x1301, 0x9001, 0x0111), 0, at(16, 2, 17, 2), at(2, 0x42, 0), at());
        one("CPSE over DEC", words(0x1301, 0x950A, 0x0111), 0, at(16, 2, 17, 2), at(2, 0x42, 0), at(16, 2));
        one("SBRC yes", words(0xFD02, 0), 0, at(16, 0xFB), at(2, 0x42, 0), at());
        one("SBRC no", words(0xFD02, 0), 0, at(16, 4), at(1, 0x41, 0), at());
        one("SBRS yes", words(0xFF02, 0), 0, at(16, 4), at(2, 0x42, 0), at());
        one("SBRS no", words(0xFF02, 0), 0, at(16, 0xFB), at(1, 0x41, 0), at());
        one("SBRS with bit 3", words(0xFF0A, 0), 0, at(16, 0xFF), at(1, 0x41, 0), at());
        one("FFFF is nothing", words(0xFFFF, 0), 0, at(31, 0xFF), at(1, 0x41, 0), at());
        // Port 05 is 25, and 0.
        one("SBIC yes", words(0x9928, 0), 0, at(), at(2, 0x42, 0), at());
        one("SBIS no", words(0x9B28, 0), 0, at(), at(1, 0x41, 0), at());
    }

    private static void ports() {
        one("OUT SREG", words(0xBF0F), 0, at(16, 0xA5), at(1, 0x41, 0xA5), at());
        one("IN SREG", words(0xB70F), 0x5A, at(), at(1, 0x41, 0x5A), at(16, 0x5A));
        one("OUT 4A", words(0xBDFA), 0, at(31, 0x77), at(1, 0x41, 0), at(0x4A, 0x77));
        one("OUT 20 is lost", words(0xBB00), 0, at(16, 0x77), at(1, 0x41, 0), at(0x20, 0));
        one("SBI 25, 3", words(0x9A2B), 0, at(), at(2, 0x41, 0), at(0x25, 8));
        FlashBoard b = new Code().ldi(24, 0xFF).out(0x25, 24).w(0x982F, 0x9A1C, 0x981D).board(0);
        b.run(3);
        C.due("CBI 25, 7", b.data(0x25), 0x7F);
        C.due("SBI 23, 4", b.step(), 2);
        C.due("turns one over", b.data(0x25), 0x6F);
        C.due("CBI 23, 5", b.step(), 2);
        C.due("does nothing", b.data(0x25), 0x6F);
        b = new Code().w(0x9A1C, 0x9A1C).board(0);
        b.pins(0xFF);
        b.step();
        C.due("SBI 23, 4 stores that bit alone", b.data(0x25), 0x10);
        b.step();
        C.due("and again", b.data(0x25), 0);
        holds();
    }

    private static void holds() {
        int[] told = {0x24, 0x25, 0x3E, 0x44, 0x45, 0x46, 0x47, 0x4A, 0x4B, 0x5D, 0x5E, 0x5F, 0x6E, 0xC1, 0xC2, 0xC4, 0xC5};
        int[] others = {0x23, 0x35, 0x3F, 0x40, 0x41, 0x54, 0x55, 0x57, 0x60, 0xC0, 0xC6};
        for (int a = 0x20; a < 0x100; a++) {
            boolean special = false;
            for (int other : others) special |= other == a;
            if (special) continue;
            int want = 0;
            for (int t : told) if (t == a) want = 0x5A;
            one("STS " + a, words(0x9300, a), 0, at(16, 0x5A), at(2, 0x42, a == 0x5F ? 0x5A : 0), at(a, want));
        }
    }

    private static void loads() {
        int[] ram = at(0x200, 0x11, 0x1FF, 0x10, 26, 0, 27, 2, 28, 0, 29, 2, 30, 0, 31, 2);
        one("LDS", words(0x9050, 0x0200), 0, ram, at(2, 0x42, 0), at(5, 0x11));
        one("LDS beyond", words(0x9050, 0x0500), 0, at(5, 9), at(2, 0x42, 0), at(5, 0));
        one("LD X", words(0x905C), 0, ram, at(2, 0x41, 0), at(5, 0x11, 26, 0, 27, 2));
        one("LD X+", words(0x905D), 0, ram, at(2, 0x41, 0), at(5, 0x11, 26, 1, 27, 2));
        one("LD -X", words(0x905E), 0, ram, at(2, 0x41, 0), at(5, 0x10, 26, 0xFF, 27, 1));
        one("LD Y+", words(0x9059), 0, ram, at(2, 0x41, 0), at(5, 0x11, 28, 1, 29, 2));
        one("LD -Y", words(0x905A), 0, ram, at(2, 0x41, 0), at(5, 0x10, 28, 0xFF, 29, 1));
        one("LD Z+", words(0x9051), 0, ram, at(2, 0x41, 0), at(5, 0x11, 30, 1, 31, 2));
        one("LD -Z", words(0x9052), 0, ram, at(2, 0x41, 0), at(5, 0x10, 30, 0xFF, 31, 1));
        one("LD R26, X+", words(0x91AD), 0, ram, at(2, 0x41, 0), at(26, 0x11, 27, 2));
        one("LD R27, -X", words(0x91BE), 0, ram, at(2, 0x41, 0), at(26, 0xFF, 27, 0x10));
        one("LD Z+ at FFFF", words(0x9051), 0, at(5, 9, 30, 0xFF, 31, 0xFF), at(2, 0x41, 0), at(5, 0, 30, 0, 31, 0));
        one("LD -X at 0", words(0x905E), 0, at(5, 9), at(2, 0x41, 0), at(5, 0, 26, 0xFF, 27, 0xFF));
        one("LD X, a register", words(0x905C), 0, at(26, 3, 3, 0x44), at(2, 0x41, 0), at(5, 0x44));
        FlashBoard b = one("LPM R5", words(0x9054), 0, at(30, 0x80, 31, 0), at(3, 0x41, 0), at(5, 0x54, 30, 0x80));
        C.due("the word", b.word(0x40), 0x9054);
        one("LPM R5 high", words(0x9054), 0, at(30, 0x81), at(3, 0x41, 0), at(5, 0x90));
        one("LPM R5, Z+", words(0x9055), 0, at(30, 0x81), at(3, 0x41, 0), at(5, 0x90, 30, 0x82));
        one("LPM R30, Z+", words(0x91E5), 0, at(30, 0x81), at(3, 0x41, 0), at(30, 0x91, 31, 0));
        one("LPM R31, Z+", words(0x91F5), 0, at(30, 0xFF), at(3, 0x41, 0), at(30, 0, 31, 0xFF));
        one("LPM R0", words(0x95C8), 0, at(30, 0x81, 31, 0x10), at(3, 0x41, 0), at(0, 0x95));
    }

    private static void stores() {
        int[] to = at(5, 0x77, 26, 0, 27, 2, 28, 0, 29, 2, 30, 0, 31, 2);
        one("STS", words(0x9250, 0x04FF), 0, to, at(2, 0x42, 0), at(0x4FF, 0x77));
        one("STS beyond", words(0x9250, 0x0500), 0, to, at(2, 0x42, 0), at(0x100, 0));
        one("ST X", words(0x925C), 0, to, at(2, 0x41, 0), at(0x200, 0x77, 26, 0));
        one("ST X+", words(0x925D), 0, to, at(2, 0x41, 0), at(0x200, 0x77, 26, 1));
        one("ST -X", words(0x925E), 0, to, at(2, 0x41, 0), at(0x1FF, 0x77, 26, 0xFF, 27, 1));
        one("ST Y+", words(0x9259), 0, to, at(2, 0x41, 0), at(0x200, 0x77, 28, 1));
        one("ST -Y", words(0x925A), 0, to, at(2, 0x41, 0), at(0x1FF, 0x77, 28, 0xFF, 29, 1));
        one("ST Z+", words(0x9251), 0, to, at(2, 0x41, 0), at(0x200, 0x77, 30, 1));
        one("ST -Z", words(0x9252), 0, to, at(2, 0x41, 0), at(0x1FF, 0x77, 30, 0xFF, 31, 1));
        one("ST X+, R27", words(0x93BD), 0, to, at(2, 0x41, 0), at(0x200, 2, 26, 1));
        one("ST -X, R26", words(0x93AE), 0, to, at(2, 0x41, 0), at(0x1FF, 0, 26, 0xFF, 27, 1));
        one("ST X, a register", words(0x925C), 0, at(26, 9, 5, 0x66), at(2, 0x41, 0), at(9, 0x66));
    }

    /** Of X, Y, Z: their own bytes LOADED and STORED, and at their own addresses. */
    private static void ownPairs() {
        int[] lows = {26, 28, 30};
        int[] more = {0x900D, 0x9009, 0x9001};
        int[] less = {0x900E, 0x900A, 0x9002};
        for (int i = 0; i < 3; i++) {
            int low = lows[i];
            int[] at1FF = at(low, 0xFF, low + 1, 1, 0x1FF, 0x77, 0x1FE, 0x66);
            int[] at200 = at(low, 0, low + 1, 2, 0x200, 0x55, 0x1FF, 0x77);
            one("LD low, +", words(more[i] | low << 4), 0, at1FF, at(2, 0x41, 0), at(low, 0x77, low + 1, 2));
            one("LD high, +", words(more[i] | low + 1 << 4), 0, at1FF, at(2, 0x41, 0), at(low, 0, low + 1, 0x77));
            one("LD low, -", words(less[i] | low << 4), 0, at200, at(2, 0x41, 0), at(low, 0x77, low + 1, 1));
            one("LD high, -", words(less[i] | low + 1 << 4), 0, at200, at(2, 0x41, 0), at(low, 0xFF, low + 1, 0x77));
            one("ST low, +", words(more[i] | 0x200 | low << 4), 0, at1FF, at(2, 0x41, 0), at(0x1FF, 0xFF, low, 0, low + 1, 2));
            one("ST high, +", words(more[i] | 0x200 | low + 1 << 4), 0, at1FF, at(2, 0x41, 0), at(0x1FF, 1, low, 0, low + 1, 2));
            one("ST low, -", words(less[i] | 0x200 | low << 4), 0, at200, at(2, 0x41, 0), at(0x1FF, 0, low, 0xFF, low + 1, 1));
            one("ST high, -", words(less[i] | 0x200 | low + 1 << 4), 0, at200, at(2, 0x41, 0), at(0x1FF, 2, low, 0xFF, low + 1, 1));
            int[] own = at(low, low, low + 1, 0, 5, 0x80);
            one("LD own, + " + low, words(more[i] | 5 << 4), 0, own, at(2, 0x41, 0), at(5, low, low, low + 1, low + 1, 0));
            one("LD own, - " + low, words(less[i] | 5 << 4), 0, at(low, low + 1, low + 1, 0), at(2, 0x41, 0), at(5, low, low, low));
            // STORED at its address, and then it is 1 more.
            one("ST own, + " + low, words(more[i] | 0x250), 0, own, at(2, 0x41, 0), at(low, 0x81, low + 1, 0));
            one("ST own, - " + low, words(less[i] | 0x250), 0, at(low, low + 1, low + 1, 0, 5, 0x80), at(2, 0x41, 0), at(low, 0x80));
        }
    }

    private static void atDistance() {
        int[] y = at(28, 0, 29, 2, 30, 0, 31, 3, 0x200, 1, 0x201, 2, 0x23F, 3, 0x300, 4, 0x320, 5);
        one("LD Y", words(0x8058), 0, y, at(2, 0x41, 0), at(5, 1));
        one("LDD Y + 1", words(0x8059), 0, y, at(2, 0x41, 0), at(5, 2, 28, 0));
        one("LDD Y + 3F", words(0xAC5F), 0, y, at(2, 0x41, 0), at(5, 3));
        one("LD Z", words(0x8050), 0, y, at(2, 0x41, 0), at(5, 4));
        one("LDD Z + 20", words(0xA050), 0, y, at(2, 0x41, 0), at(5, 5));
        one("STD Y + 8", words(0x8658), 0, at(5, 6, 28, 0, 29, 2), at(2, 0x41, 0), at(0x208, 6));
        one("STD Z + 10", words(0x8A50), 0, at(5, 7, 30, 0, 31, 2), at(2, 0x41, 0), at(0x210, 7));
        one("ST Y beyond, Rd stays", words(0x8258), 0, at(5, 7, 28, 0, 29, 5), at(2, 0x41, 0), at(5, 7, 28, 0, 29, 5));
        one("STD Z + 3F, a byte that turns bits over", words(0xAE57), 0, at(5, 7, 30, 0xE4, 31, 0xFF), at(2, 0x41, 0), at(0x25, 7, 5, 7));
        one("LDD Z + 2 at FFFF", words(0x8052), 0, at(1, 8, 30, 0xFF, 31, 0xFF), at(2, 0x41, 0), at(5, 8));
    }

    private static void stack() {
        one("PUSH", words(0x925F), 0, at(5, 0x77), at(2, 0x41, 0), at(0x4FF, 0x77, 0x5D, 0xFE, 0x5E, 4));
        one("POP", words(0x905F), 0, at(0x5D, 0xFD, 0x4FE, 0x66), at(2, 0x41, 0), at(5, 0x66, 0x5D, 0xFE));
        one("PUSH at SP 0", words(0x925F), 0, at(5, 7, 0x5D, 0, 0x5E, 0), at(2, 0x41, 0), at(0, 7, 0x5D, 0xFF, 0x5E, 0xFF));
        one("POP at SP FFFF", words(0x905F), 0, at(0, 7, 0x5D, 0xFF, 0x5E, 0xFF), at(2, 0x41, 0), at(5, 7, 0x5D, 0));
        one("PUSH into SPH", words(0x925F), 0, at(5, 3, 0x5D, 0x5E, 0x5E, 0), at(2, 0x41, 0), at(0x5D, 0x5D, 0x5E, 0));
        one("PUSH into SPL", words(0x925F), 0, at(5, 3, 0x5D, 0x5D, 0x5E, 0), at(2, 0x41, 0), at(0x5D, 0x5C, 0x5E, 0));
        one("POP of SPL", words(0x905F), 0, at(0x5D, 0x5C, 0x5E, 0), at(2, 0x41, 0), at(5, 0x5D));
        one("PUSH into SREG", words(0x925F), 0, at(5, 0x42, 0x5D, 0x5F, 0x5E, 0), at(2, 0x41, 0x42), at(0x5D, 0x5E));
        one("RET", words(0x9508), 0, at(0x5D, 0xFD, 0x4FE, 0xFA, 0x4FF, 0xBC), at(4, 0x2BC, 0), at(0x5D, 0xFF));
        one("RETI with I", words(0x9518), I, at(0x5D, 0xFD, 0x4FE, 5, 0x4FF, 0xBC), at(4, 0x5BC, I), at(0x5D, 0xFF));
        one("RETI", words(0x9518), T, at(0x5D, 0xFD, 0x4FE, 5, 0x4FF, 0xBC), at(4, 0x5BC, T | I), at(0x5D, 0xFF));
    }

    private static void jumps() {
        one("RJMP + 10", words(0xC010), 0, at(), at(2, 0x51, 0), at());
        one("RJMP - 1", words(0xCFFF), 0, at(), at(2, 0x40, 0), at());
        one("RJMP - 800", words(0xC800), 0, at(), at(2, 0x41, 0), at());
        one("RJMP - 42", words(0xCFBE), 0, at(), at(2, 0x7FF, 0), at());
        one("RCALL + 1", words(0xD001), 0, at(), at(3, 0x42, 0), at(0x4FF, 0x41, 0x4FE, 0, 0x5D, 0xFD));
        one("JMP", words(0x940C, 0x0123), 0, at(0x4FE, 7, 0x4FF, 8), at(3, 0x123, 0), at(0x4FE, 7, 0x4FF, 8, 0x5D, 0xFF, 0x5E, 4));
        one("JMP with k's higher bits", words(0x95FD, 0xF923), 0, at(), at(3, 0x123, 0), at());
        one("CALL", words(0x940E, 0x07FF), 0, at(), at(4, 0x7FF, 0), at(0x4FF, 0x42, 0x4FE, 0, 0x5D, 0xFD));
        one("IJMP", words(0x9409), 0, at(30, 0x34, 31, 0xFA), at(2, 0x234, 0), at(0x5D, 0xFF));
        one("ICALL that is PUSHED into Z", words(0x9509), 0, at(30, 0, 31, 0, 0x5D, 31, 0x5E, 0), at(3, 0x100, 0), at(31, 0x41, 30, 0));
        one("ICALL", words(0x9509), 0, at(30, 0x34, 31, 2), at(3, 0x234, 0), at(0x4FF, 0x41, 0x5D, 0xFD));
        for (int s = 0; s < 8; s++) {
            one("BRBS taken " + s, words(0xF008 | s), 1 << s, at(), at(2, 0x42, 1 << s), at());
            one("BRBS not " + s, words(0xF008 | s), 0xFF ^ 1 << s, at(), at(1, 0x41, 0xFF ^ 1 << s), at());
            one("BRBC taken " + s, words(0xF7F8 | s), 0xFF ^ 1 << s, at(), at(2, 0x40, 0xFF ^ 1 << s), at());
            one("BRBC not " + s, words(0xF7F8 | s), 1 << s, at(), at(1, 0x41, 1 << s), at());
        }
        one("BRBS + 3F", words(0xF1F8), 1, at(), at(2, 0x80, 1), at());
        one("BRBS - 40", words(0xF200), 1, at(), at(2, 0x01, 1), at());
        FlashBoard b = new Code().w(0xD7FE).board(0x7FF);
        b.put(0x5E, 4);
        C.due("RCALL from 7FF", b.step(), 3);
        C.due("PC turns over", b.about(0), 0x7FE);
        C.due("pushed", b.data(0x400), 0);
        FlashBoard high = new Code().w(0x940E, 0x0001).board(0x712);
        high.put(0x5E, 4);
        high.step();
        C.due("the low byte is pushed first", high.data(0x400), 0x14);
        C.due("then the high one", high.data(0x3FF), 0x07);
    }

    private static void nothing() {
        int[] none = {0x0000, 0x00FF, 0x9003, 0x9006, 0x9007, 0x9008, 0x900B, 0x9203, 0x9204, 0x9205, 0x9206, 0x9207, 0x9208,
            0x920B, 0x9404, 0x940B, 0x9419, 0x9519, 0x9528, 0x9598, 0x95D8, 0x95F8, 0x95B8};
        for (int w : none) {
            FlashBoard b = one("nothing of " + Integer.toHexString(w), words(w), 0x15, at(), at(1, 0x41, 0x15), at(0, 0));
            C.due("no sleep", b.about(2), 0);
        }
    }
}
