import java.util.ArrayList;
import java.util.List;

/** Words of a program, put together by their instructions' common names. */
final class Code {
    private final List<Integer> words = new ArrayList<>();

    Code w(int... more) {
        for (int x : more) words.add(x & 0xFFFF);
        return this;
    }

    Code ldi(int d, int k) {
        return w(0xE000 | (k & 0xF0) << 4 | (d - 16) << 4 | k & 15);
    }

    Code out(int address, int r) {
        int port = address - 0x20;
        return w(0xB800 | (port & 0x30) << 5 | r << 4 | port & 15);
    }

    Code in(int d, int address) {
        int port = address - 0x20;
        return w(0xB000 | (port & 0x30) << 5 | d << 4 | port & 15);
    }

    Code sts(int address, int r) {
        return w(0x9200 | r << 4, address);
    }

    Code lds(int d, int address) {
        return w(0x9000 | d << 4, address);
    }

    /** A register's number stored at an address, by way of R24: three cycles. */
    Code set(int address, int v) {
        return ldi(24, v).sts(address, 24);
    }

    Code nops(int n) {
        for (int i = 0; i < n; i++) w(0);
        return this;
    }

    /** A jump to itself. */
    Code stay() {
        return w(0xCFFF);
    }

    /** 57 becomes a command, and the very next instruction is the STORE IN FLASH. */
    Code spm(int command) {
        return ldi(24, command).out(0x57, 24).w(0x95E8);
    }

    Code z(int v) {
        return ldi(30, v & 255).ldi(31, v >> 8);
    }

    int size() {
        return words.size();
    }

    /** Burns the words from an address on; what stands behind them is left as it was. */
    Code burn(FlashBoard board, int address) {
        for (int i = 0; i < words.size(); i += 10) {
            int[] five = new int[5];
            for (int k = 0; k < 10; k++) {
                int a = address + i + k;
                int w = i + k < words.size() ? words.get(i + k) : a < 0x800 ? board.word(a) : 0;
                five[k / 2] |= k % 2 == 0 ? w << 16 : w;
            }
            board.burn(address + i, five[0], five[1], five[2], five[3], five[4]);
        }
        return this;
    }

    /** A pair of registers, SP, or two bytes of RAM, the low one first. */
    static void pair(FlashBoard board, int low, int v) {
        board.put(low, v);
        board.put(low + 1, v >> 8);
    }

    /** Steps until so many cycles have gone by, in as many calls of pass as that takes. */
    static int passLong(FlashBoard board, int cycles) {
        int gone = 0;
        while (gone < cycles) gone += board.pass(Math.min(200000, cycles - gone));
        return gone;
    }

    /** A new board with these words from an address on, at which it starts. */
    FlashBoard board(int address) {
        FlashBoard board = new FlashBoard();
        burn(board, address);
        board.start(address);
        return board;
    }
}
