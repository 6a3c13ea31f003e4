import java.util.NoSuchElementException;

/**
 * All that can be asked of a board, numbered. One object is used for at most 512 calls, so all of it is asked of many
 * boards that have been made in one way, of each a part.
 */
final class Readings {
    /** Makes a board, and does with it what is to be looked at; each board of one Maker is like the others. */
    interface Maker {
        FlashBoard board();
    }

    static final int DATA = 22;
    static final int WORD = DATA + 0x500;
    static final int EEPROM = WORD + 0x800;
    static final int SENT = EEPROM + 256;
    static final int GOT = SENT + 1;
    static final int PINS = GOT + 1001;
    static final int FUSES = PINS + 1;
    static final int ALL = FUSES + 1;
    /** How many calls the making of a board takes at most, unless another number is told. */
    private static final int MAKING = 90;

    private Readings() {
    }

    static int one(FlashBoard b, int i) {
        if (i < DATA) return b.about(i);
        if (i < WORD) return b.data(i - DATA);
        if (i < EEPROM) return b.word(i - WORD);
        if (i < SENT) return b.eeprom(i - EEPROM);
        if (i < GOT) return b.sent();
        if (i < PINS) return got(b, i - GOT);
        return i < FUSES ? b.pins(0) : b.fuses(0);
    }

    private static int got(FlashBoard b, int i) {
        try {
            return b.got(i);
        } catch (NoSuchElementException e) {
            return -1;
        }
    }

    static String name(int i) {
        if (i < DATA) return "about " + i;
        if (i < WORD) return "data " + Integer.toHexString(i - DATA);
        if (i < EEPROM) return "word " + Integer.toHexString(i - WORD);
        if (i < SENT) return "eeprom " + (i - EEPROM);
        if (i < GOT) return "sent";
        if (i < PINS) return "got " + (i - GOT);
        return i < FUSES ? "pins" : "fuses";
    }

    static int[] all(Maker maker) {
        return all(maker, MAKING);
    }

    static int[] all(Maker maker, int making) {
        int[] answers = new int[ALL];
        FlashBoard b = null;
        for (int i = 0; i < ALL; i++) {
            if (i % (512 - making) == 0) b = maker.board();
            answers[i] = one(b, i);
        }
        return answers;
    }

    static void same(Checks checks, String what, int[] got, int[] want) {
        for (int i = 0; i < ALL; i++) checks.due(got[i] == want[i] ? what : what + ": " + name(i), got[i], want[i]);
    }
}
