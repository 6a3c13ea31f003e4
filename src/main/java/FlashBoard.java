import java.util.Arrays;
import java.util.NoSuchElementException;

/** A board with a small processor, its flash, what is joined to it, and the host at its serial line. */
public final class FlashBoard {
    public static final int NONE = -1;

    private static final int FLASH_SIZE = 0x800;
    /** The last address of FLASH, and the mask that turns an address over behind it. */
    private static final int LAST_WORD = 0x7FF;
    private static final int BOOT = 0x600;
    private static final int PAGE = 32;
    private static final int DATA_SIZE = 0x500;
    /** Where the REGISTERS of what is joined begin; ports count from here, too. */
    private static final int JOINED = 0x20;
    private static final int RAM = 0x100;

    private static final int INPUT = 0x23;
    private static final int DIRECTION = 0x24;
    private static final int OUTPUT = 0x25;
    private static final int TIMER_FLAGS = 0x35;
    private static final int EEPROM_CONTROL = 0x3F;
    private static final int EEPROM_DATA = 0x40;
    private static final int EEPROM_ADDRESS = 0x41;
    private static final int TIMER_MODE = 0x44;
    private static final int TIMER_CLOCK = 0x45;
    private static final int TIMER_COUNT = 0x46;
    private static final int TIMER_COMPARE = 0x47;
    private static final int CAUSES = 0x54;
    private static final int VECTOR_CONTROL = 0x55;
    private static final int FLASH_CONTROL = 0x57;
    private static final int SP_LOW = 0x5D;
    private static final int SP_HIGH = 0x5E;
    private static final int SREG = 0x5F;
    private static final int WATCHDOG_CONTROL = 0x60;
    private static final int TIMER_ENABLES = 0x6E;
    private static final int LINE_STATE = 0xC0;
    private static final int LINE_PARTS = 0xC1;
    private static final int LINE_RATE_LOW = 0xC4;
    private static final int LINE_RATE_HIGH = 0xC5;
    private static final int LINE_DATA = 0xC6;

    private static final int BY_POWER = 0x01;
    private static final int BY_HOST = 0x02;
    private static final int BY_WATCHDOG = 0x08;

    /** Cycles of every WINDOW. */
    private static final int WINDOW = 4;

    private final Memory memory;
    private final Core core;
    private boolean powered;
    private int cycles;
    private int steps;
    private int entries;
    private int watchdogResets;

    public FlashBoard() {
        memory = new Memory();
        core = new Core(memory);
        powered = true;
        resetBy(BY_POWER);
    }

    public int step() {
        return powered ? oneStep() : 0;
    }

    public int run(int n) throws IllegalArgumentException {
        if (n < 1 || n > 5000) throw new IllegalArgumentException("n is not 1 .. 5000");
        if (!powered) return 0;
        int gone = 0;
        for (int i = 0; i < n; i++) gone += oneStep();
        return gone;
    }

    public int pass(int n) throws IllegalArgumentException {
        if (n < 1 || n > 200000) throw new IllegalArgumentException("n is not 1 .. 200000");
        if (!powered) return 0;
        int gone = 0;
        // Every STEP has at least one cycle, so n of them always suffice.
        for (int i = 0; i < n && gone < n; i++) gone += oneStep();
        return gone;
    }

    public int host(int b) {
        return memory.line.queue(b & 0xFF);
    }

    public int sent() {
        return memory.line.arrived;
    }

    public int got(int i) throws NoSuchElementException {
        Line line = memory.line;
        boolean isKept = i >= 0 && i < line.arrived && i < Line.KEPT;
        if (!isKept) throw new NoSuchElementException("no such byte is kept");
        return line.kept[i];
    }

    public int burn(int address, int a, int b, int c, int d, int e) throws IndexOutOfBoundsException {
        if (!inFlash(address)) throw new IndexOutOfBoundsException("no address of FLASH");
        Flash flash = memory.flash;
        return flash.burnPair(address, a) + flash.burnPair(address + 2, b) + flash.burnPair(address + 4, c)
            + flash.burnPair(address + 6, d) + flash.burnPair(address + 8, e);
    }

    public int word(int address) throws IndexOutOfBoundsException {
        if (!inFlash(address)) throw new IndexOutOfBoundsException("no address of FLASH");
        return memory.flash.words[address];
    }

    public int data(int address) throws IndexOutOfBoundsException {
        if (address < 0 || address >= DATA_SIZE) throw new IndexOutOfBoundsException("no address of DATA");
        // A LOAD of the line's data would take a byte, so here it is only looked at.
        return address == LINE_DATA ? memory.line.firstReceived() : memory.load(address);
    }

    public void put(int address, int v) throws IndexOutOfBoundsException {
        if (!canBePut(address)) throw new IndexOutOfBoundsException("no register, SP, SREG or RAM");
        memory.cells[address] = v & 0xFF;
    }

    public int eeprom(int k) throws IndexOutOfBoundsException {
        if (k < 0 || k >= memory.eeprom.bytes.length) throw new IndexOutOfBoundsException("no address of the EEPROM");
        return memory.eeprom.bytes[k];
    }

    public int pins(int v) {
        int old = memory.pinLevels;
        memory.pinLevels = v & 0xFF;
        return old;
    }

    public int fuses(int v) {
        Flash flash = memory.flash;
        int old = (flash.fuse << 4) | flash.locks;
        flash.locks = v & 15;
        flash.fuse = (v >> 4) & 1;
        return old;
    }

    public void start(int address) throws IndexOutOfBoundsException {
        if (!inFlash(address)) throw new IndexOutOfBoundsException("no address of FLASH");
        core.goTo(address);
    }

    public void reset() {
        if (powered) resetBy(BY_HOST);
    }

    public boolean power(boolean on) {
        boolean was = powered;
        powered = on;
        if (on && !was) resetBy(BY_POWER);
        return was;
    }

    public int about(int what) throws NoSuchElementException {
        switch (what) {
            case 0: return core.pc;
            case 1: return memory.stackPointer();
            case 2: return core.sleeps ? 1 : 0;
            case 3: return cycles;
            case 4: return steps;
            case 5: return entries;
            case 6: return watchdogResets;
            case 7: return memory.flash.busy;
            case 8: return Integer.bitCount(memory.flash.filled);
            case 9: return memory.watchdog.count;
            case 10: return memory.timer.prescaler;
            case 11: return memory.line.queued;
            case 12: return memory.line.received;
            case 13: return memory.line.sendingLeft;
            case 14: return memory.line.comingLeft;
            case 15: return memory.eeprom.writingLeft;
            case 16: return memory.flash.window;
            case 17: return memory.watchdog.window;
            case 18: return memory.vectorWindow;
            case 19: return memory.eeprom.window;
            case 20: return powered ? 1 : 0;
            case 21: return core.waitingInterrupt();
            default: throw new NoSuchElementException("nothing is told of that");
        }
    }

    private static boolean inFlash(int address) {
        return address >= 0 && address < FLASH_SIZE;
    }

    private static boolean canBePut(int address) {
        return (address >= 0 && address < JOINED)
            || (address >= SP_LOW && address <= SREG)
            || (address >= RAM && address < DATA_SIZE);
    }

    private int oneStep() {
        steps++;
        int waiting = core.waitingInterrupt();
        if (core.sleeps && waiting == 0) return letPass(1);
        if (waiting != 0 && !core.heldBack) {
            entries++;
            core.enter(waiting);
            return letPass(4);
        }
        int due = core.instruction();
        return letPass(due + memory.delay);
    }

    /** Lets an instruction's cycles go by; a RESET by the watchdog leaves out the rest of them. */
    private int letPass(int due) {
        for (int i = 1; i <= due; i++) {
            cycles++;
            if (memory.cycle()) {
                watchdogResets++;
                resetBy(BY_WATCHDOG);
                return i;
            }
        }
        return due;
    }

    private void resetBy(int cause) {
        memory.clear(cause);
        core.goTo(memory.flash.fuse == 1 ? BOOT : 0);
    }

    /** FLASH with its BUFFER, LOCKS and FUSE, and register 57, by which it writes itself. */
    private static final class Flash {
        private static final int BUSY_CYCLES = 8000;
        private static final int APPLICATION_LOCKED = 0x40;
        private static final int FILL = 0;
        private static final int ERASE = 1;
        private static final int WRITE = 2;
        private static final int LOCK = 4;
        private static final int UNLOCK_APPLICATION = 8;
        private static final int[] LOADER = {
            0xE004, 0xBF0E, 0xEF0F, 0xBF0D, 0xB714, 0x2411, 0xBE14, 0x95A8, 0xFD13, 0xC09A,
            0xE108, 0x9300, 0x0060, 0xE00D, 0x9300, 0x0060, 0x9210, 0x00C5, 0x9210, 0x00C4,
            0xE108, 0x9300, 0x00C1, 0xD06C, 0x3300, 0xF0D9, 0x3505, 0xF0A9, 0x3604, 0xF0D9,
            0x3704, 0xF039, 0x3705, 0xF039, 0x3501, 0xF021, 0xD06E, 0xE102, 0xC010, 0xC051,
            0xC073, 0xD069, 0xE10E, 0xD060, 0xE903, 0xD05E, 0xE007, 0xD05C, 0xC005, 0xD052,
            0x2F80, 0xD050, 0x2F90, 0xD05D, 0xE100, 0xD054, 0xCFDE, 0xD04A, 0x2F40, 0xD048,
            0x2F50, 0xD046, 0x2F60, 0xE0A0, 0xE0B1, 0x2777, 0xE430, 0xD040, 0x930D, 0x2770,
            0x953A, 0xF7D9, 0xD03B, 0x2770, 0xD048, 0x2B47, 0xF501, 0x3450, 0xF4F1, 0x3466,
            0xF4E1, 0x2F28, 0x712F, 0xF4C9, 0x3096, 0xF4B8, 0xD018, 0xE023, 0xD01A, 0xE121,
            0xD018, 0xE0A0, 0xE0B1, 0xE230, 0x900D, 0x901D, 0xE021, 0xD011, 0x9632, 0x953A,
            0xF7C9, 0x2411, 0x54E0, 0x40F0, 0xE025, 0xD009, 0xE121, 0xD007, 0xCFC9, 0xE101,
            0xCFC8, 0x01FC, 0x0FEE, 0x1FFF, 0x9508, 0xB717, 0xFD10, 0xCFFD, 0xBF27, 0x95E8,
            0x9508, 0xD00A, 0xD009, 0xD008, 0xD016, 0xDFF1, 0xE430, 0x9105, 0xD00B, 0x953A,
            0xF7E1, 0xCFB2, 0x9100, 0x00C0, 0xFF07, 0xCFFC, 0x95A8, 0x9100, 0x00C6, 0x9508,
            0x9120, 0x00C0, 0xFF25, 0xCFFC, 0x9300, 0x00C6, 0x9508, 0xDFF0, 0x3200, 0xF021,
            0x912F, 0x912F, 0xE105, 0xCF9D, 0xE104, 0xCFF0, 0xDFF6, 0xE100, 0xDFED, 0x9120,
            0x00C0, 0xFF26, 0xCFFC, 0xC007, 0x27EE, 0x27FF, 0x9105, 0x9114, 0x2301, 0x3F0F,
            0xF051, 0x9210, 0x00C1, 0xE108, 0x9300, 0x0060, 0x9210, 0x0060, 0x27EE, 0x27FF,
            0x9409, 0xCF54
        };

        final int[] words;
        private final int[] cells;
        private final int[] buffer;
        /** Bit i is 1 if the BUFFER has its word i. */
        int filled;
        int locks;
        int fuse;
        int window;
        int busy;

        Flash(int[] cells) {
            this.cells = cells;
            words = new int[FLASH_SIZE];
            buffer = new int[PAGE];
            locks = 15;
            fuse = 1;
            Arrays.fill(words, 0xFFFF);
            System.arraycopy(LOADER, 0, words, BOOT, LOADER.length);
        }

        void clear() {
            window = 0;
            busy = 0;
            filled = 0;
        }

        void cycle() {
            if (window > 0) {
                window--;
                if (window == 0) endCommand();
            }
            if (busy > 0) {
                busy--;
                if (busy == 0) endCommand();
            }
        }

        int burnPair(int address, int pair) {
            int burnt = 0;
            if (address < FLASH_SIZE) {
                words[address] = pair >>> 16;
                burnt++;
            }
            if (address + 1 < FLASH_SIZE) {
                words[address + 1] = pair & 0xFFFF;
                burnt++;
            }
            return burnt;
        }

        /** A word as instructions see it. */
        int seen(int address) {
            int a = address & LAST_WORD;
            return a < BOOT && (cells[FLASH_CONTROL] & APPLICATION_LOCKED) != 0 ? 0xFFFF : words[a];
        }

        /** A BYTE OF FLASH for an instruction that stands at an address. */
        int seenByte(int z, int at) {
            if (window > 0 && command() == LOCK) {
                window = 0;
                endCommand();
                if (z == 1) return locks | 0xF0;
                return z == 0 ? fuse | 0xFE : 0xFF;
            }
            int a = (z >> 1) & LAST_WORD;
            if (isHidden(a, at)) return 0xFF;
            return (z & 1) == 0 ? seen(a) & 0xFF : seen(a) >> 8;
        }

        private boolean isHidden(int a, int at) {
            if (a >= BOOT) return at < BOOT && (locks & 8) == 0;
            return at >= BOOT && (locks & 2) == 0;
        }

        void storeControl(int v) {
            int old = cells[FLASH_CONTROL];
            if (busy > 0) {
                cells[FLASH_CONTROL] = (old & 0x7F) | (v & 0x80);
                return;
            }
            cells[FLASH_CONTROL] = (old & APPLICATION_LOCKED) | (v & 0x9F);
            window = (v & 1) != 0 ? WINDOW : 0;
        }

        /** A STORE IN FLASH; the answer is how many cycles more its instruction takes. */
        int program(int at, int z, int pair) {
            if (at < BOOT || busy > 0 || window == 0) return 0;
            window = 0;
            int command = command();
            if (command == ERASE || command == WRITE) return changePage(command, (z >> 6) & 63);
            if (command == FILL) {
                fillBuffer((z >> 1) & (PAGE - 1), pair);
            } else if (command == UNLOCK_APPLICATION) {
                cells[FLASH_CONTROL] &= ~APPLICATION_LOCKED;
                filled = 0;
            } else if (command == LOCK) {
                locks &= pair >> 2;
            }
            endCommand();
            return 0;
        }

        private int command() {
            return (cells[FLASH_CONTROL] >> 1) & 15;
        }

        private void endCommand() {
            cells[FLASH_CONTROL] &= ~0x1F;
        }

        private void fillBuffer(int i, int pair) {
            if (hasWord(i)) return;
            filled |= 1 << i;
            buffer[i] = pair;
        }

        private boolean hasWord(int i) {
            return ((filled >> i) & 1) != 0;
        }

        private int changePage(int command, int page) {
            int first = page * PAGE;
            boolean ofBoot = first >= BOOT;
            if ((locks & (ofBoot ? 4 : 1)) == 0) {
                endCommand();
                return 0;
            }
            if (command == ERASE) {
                Arrays.fill(words, first, first + PAGE, 0xFFFF);
            } else {
                writePage(first);
                filled = 0;
            }
            if (ofBoot) {
                endCommand();
                return BUSY_CYCLES;
            }
            cells[FLASH_CONTROL] |= APPLICATION_LOCKED;
            busy = BUSY_CYCLES;
            return 0;
        }

        private void writePage(int first) {
            for (int i = 0; i < PAGE; i++) {
                if (hasWord(i)) words[first + i] &= buffer[i];
            }
        }
    }

    /** The timer: a PRESCALER, and a count that goes on by its ticks. */
    private static final class Timer {
        private final int[] cells;
        int prescaler;

        Timer(int[] cells) {
            this.cells = cells;
        }

        void cycle() {
            prescaler = (prescaler + 1) & 1023;
            int clock = cells[TIMER_CLOCK] & 7;
            if (clock != 0 && ticks(clock)) tick();
        }

        private boolean ticks(int clock) {
            switch (clock) {
                case 1: return true;
                case 2: return (prescaler & 7) == 0;
                case 3: return (prescaler & 63) == 0;
                case 4: return (prescaler & 255) == 0;
                case 5: return prescaler == 0;
                default: return false;
            }
        }

        private void tick() {
            int count = cells[TIMER_COUNT];
            if ((cells[TIMER_MODE] & 2) != 0 && count == cells[TIMER_COMPARE]) {
                count = 0;
            } else {
                count = (count + 1) & 0xFF;
                if (count == 0) cells[TIMER_FLAGS] |= 1;
            }
            cells[TIMER_COUNT] = count;
            if (count == cells[TIMER_COMPARE]) cells[TIMER_FLAGS] |= 2;
        }
    }

    /** The serial line with the host at its other end. */
    private static final class Line {
        private static final int RECEIVED = 0x80;
        private static final int ALL_SENT = 0x40;
        private static final int ROOM = 0x20;
        private static final int LOST = 0x08;
        private static final int FAST = 0x02;
        private static final int RECEIVER_ON = 0x10;
        private static final int SENDER_ON = 0x08;
        private static final int HOST_ROOM = 300;
        private static final int KEPT = 1000;

        private final int[] cells;
        private final int[] hostQueue;
        private int hostHead;
        int queued;
        final int[] kept;
        int arrived;
        private int waitingByte;
        private boolean byteWaits;
        private int sendingByte;
        int sendingLeft;
        private int comingByte;
        int comingLeft;
        private int firstByte;
        private int secondByte;
        int received;

        Line(int[] cells) {
            this.cells = cells;
            hostQueue = new int[HOST_ROOM];
            kept = new int[KEPT];
        }

        void clear() {
            byteWaits = false;
            sendingLeft = 0;
            comingLeft = 0;
            received = 0;
            cells[LINE_STATE] = ROOM;
        }

        /** A byte waits at the host. */
        int queue(int b) {
            if (queued >= HOST_ROOM) return NONE;
            hostQueue[(hostHead + queued) % HOST_ROOM] = b;
            queued++;
            return queued;
        }

        void storeState(int v) {
            int others = cells[LINE_STATE] & ~FAST & ~(v & ALL_SENT);
            cells[LINE_STATE] = others | (v & FAST);
        }

        void storeParts(int v) {
            cells[LINE_PARTS] = v;
            if ((v & SENDER_ON) != 0) return;
            byteWaits = false;
            cells[LINE_STATE] |= ROOM;
        }

        void storeData(int v) {
            if ((cells[LINE_PARTS] & SENDER_ON) == 0 || byteWaits) return;
            waitingByte = v;
            byteWaits = true;
            cells[LINE_STATE] &= ~ROOM;
        }

        int firstReceived() {
            return received > 0 ? firstByte : 0;
        }

        /** What a LOAD of the data gives; it takes that byte. */
        int take() {
            cells[LINE_STATE] &= ~LOST;
            if (received == 0) return 0;
            int b = firstByte;
            firstByte = secondByte;
            received--;
            if (received == 0) cells[LINE_STATE] &= ~RECEIVED;
            return b;
        }

        void cycle() {
            if (sendingLeft > 0) {
                sendOn();
            } else if (byteWaits) {
                sendingByte = waitingByte;
                sendingLeft = frame();
                byteWaits = false;
                cells[LINE_STATE] |= ROOM;
            }
            if (comingLeft > 0) {
                comeOn();
            } else if (queued > 0) {
                comingByte = hostQueue[hostHead];
                comingLeft = frame();
                hostHead = (hostHead + 1) % HOST_ROOM;
                queued--;
            }
        }

        private int frame() {
            int rate = ((cells[LINE_RATE_HIGH] & 15) << 8) | cells[LINE_RATE_LOW];
            return (rate + 1) * ((cells[LINE_STATE] & FAST) != 0 ? 80 : 160);
        }

        private void sendOn() {
            sendingLeft--;
            if (sendingLeft > 0) return;
            if (arrived < KEPT) kept[arrived] = sendingByte;
            arrived++;
            if (!byteWaits) cells[LINE_STATE] |= ALL_SENT;
        }

        private void comeOn() {
            comingLeft--;
            if (comingLeft > 0 || (cells[LINE_PARTS] & RECEIVER_ON) == 0) return;
            if (received >= 2) {
                cells[LINE_STATE] |= LOST;
                return;
            }
            if (received == 0) {
                firstByte = comingByte;
            } else {
                secondByte = comingByte;
            }
            received++;
            cells[LINE_STATE] |= RECEIVED;
        }
    }

    /** The EEPROM, with registers 3F, 40 and 41. */
    private static final class Eeprom {
        private static final int ENABLE = 0x08;
        private static final int READY = 0x04;
        private static final int WRITING = 0x02;

        private final int[] cells;
        final int[] bytes;
        int window;
        int writingLeft;

        Eeprom(int[] cells) {
            this.cells = cells;
            bytes = new int[256];
            Arrays.fill(bytes, 0xFF);
        }

        void clear() {
            window = 0;
            writingLeft = 0;
        }

        /** A STORE of the control; the answer is how many cycles more its instruction takes. */
        int storeControl(int v) {
            int control = cells[EEPROM_CONTROL];
            boolean wasReady = (control & READY) != 0;
            control = (control & ~ENABLE) | (v & ENABLE);
            if ((v & 4) != 0) {
                control |= READY;
                window = WINDOW;
            }
            if ((v & 2) != 0 && wasReady && (control & WRITING) == 0) {
                bytes[cells[EEPROM_ADDRESS] & 0xFF] = cells[EEPROM_DATA];
                control = (control & ~READY) | WRITING;
                window = 0;
                writingLeft = 3400;
            }
            cells[EEPROM_CONTROL] = control;
            if ((v & 1) == 0 || (control & WRITING) != 0) return 0;
            cells[EEPROM_DATA] = bytes[cells[EEPROM_ADDRESS] & 0xFF];
            return 4;
        }

        /** A STORE of the data or the address, which hold still while a byte is written. */
        void storeOther(int address, int v) {
            if ((cells[EEPROM_CONTROL] & WRITING) == 0) cells[address] = v;
        }

        void cycle() {
            if (window > 0) {
                window--;
                if (window == 0) cells[EEPROM_CONTROL] &= ~READY;
            }
            if (writingLeft > 0) {
                writingLeft--;
                if (writingLeft == 0) cells[EEPROM_CONTROL] &= ~WRITING;
            }
        }
    }

    /** The watchdog, with register 60. */
    private static final class Watchdog {
        private static final int FLAG = 0x80;
        private static final int INTERRUPT = 0x40;
        private static final int CHANGE = 0x10;
        private static final int RESETS = 0x08;

        private final int[] cells;
        int count;
        int window;

        Watchdog(int[] cells) {
            this.cells = cells;
        }

        /** Behind a RESET's change of the causes. */
        void clear() {
            count = 0;
            window = 0;
            cells[WATCHDOG_CONTROL] = cells[CAUSES] & BY_WATCHDOG;
        }

        void storeControl(int v) {
            int control = cells[WATCHDOG_CONTROL];
            boolean couldChange = (control & CHANGE) != 0;
            control &= ~(v & FLAG);
            control = (control & ~INTERRUPT) | (v & INTERRUPT);
            if (couldChange && (v & CHANGE) == 0) {
                // Bit 3 of the causes stands where RESETS does, and keeps it at 1.
                control = (control & 0xC0) | (v & 0x2F) | (cells[CAUSES] & BY_WATCHDOG);
                window = 0;
            } else if ((v & CHANGE) != 0 && (v & RESETS) != 0) {
                control |= CHANGE;
                window = WINDOW;
            }
            cells[WATCHDOG_CONTROL] = control;
        }

        /** The answer is whether a RESET comes. */
        boolean cycle() {
            if (window > 0) {
                window--;
                if (window == 0) cells[WATCHDOG_CONTROL] &= ~CHANGE;
            }
            int control = cells[WATCHDOG_CONTROL];
            if ((control & (RESETS | INTERRUPT)) == 0) {
                count = 0;
                return false;
            }
            count++;
            if (count < limit(control)) return false;
            count = 0;
            if ((control & INTERRUPT) == 0) return true;
            cells[WATCHDOG_CONTROL] = control | FLAG;
            return false;
        }

        private static int limit(int control) {
            int period = ((control >> 2) & 8) | (control & 7);
            return 4096 << (period < 11 ? period : 11);
        }
    }

    /** DATA: registers, RAM, and the registers of all that is joined to the processor. */
    private static final class Memory {
        final int[] cells;
        final Flash flash;
        final Timer timer;
        final Line line;
        final Eeprom eeprom;
        final Watchdog watchdog;
        int pinLevels;
        int vectorWindow;
        /** Cycles more that the STOREs of an instruction gave it. */
        int delay;

        Memory() {
            cells = new int[DATA_SIZE];
            flash = new Flash(cells);
            timer = new Timer(cells);
            line = new Line(cells);
            eeprom = new Eeprom(cells);
            watchdog = new Watchdog(cells);
        }

        /** What a RESET does to all but the processor's core. */
        void clear(int cause) {
            int causes = cause == BY_POWER ? cause : cells[CAUSES] | cause;
            if (cause == BY_POWER) {
                Arrays.fill(cells, 0);
            } else {
                Arrays.fill(cells, JOINED, RAM, 0);
            }
            cells[CAUSES] = causes;
            vectorWindow = 0;
            timer.prescaler = 0;
            flash.clear();
            line.clear();
            eeprom.clear();
            watchdog.clear();
        }

        /** One cycle of all that is joined; the answer is whether the watchdog's RESET comes. */
        boolean cycle() {
            flash.cycle();
            if (vectorWindow > 0) {
                vectorWindow--;
                if (vectorWindow == 0) cells[VECTOR_CONTROL] &= ~1;
            }
            timer.cycle();
            line.cycle();
            eeprom.cycle();
            return watchdog.cycle();
        }

        int load(int address) {
            if (address < 0 || address >= DATA_SIZE) return 0;
            if (address == LINE_DATA) return line.take();
            if (address == INPUT) {
                int outward = cells[DIRECTION];
                return (cells[OUTPUT] & outward) | (pinLevels & ~outward);
            }
            return cells[address];
        }

        void store(int address, int v) {
            if (address < 0 || address >= DATA_SIZE) return;
            if (address < JOINED || address >= RAM) {
                cells[address] = v;
                return;
            }
            switch (address) {
                case DIRECTION: case OUTPUT: case 0x3E: case TIMER_MODE: case TIMER_CLOCK: case TIMER_COUNT:
                case TIMER_COMPARE: case 0x4A: case 0x4B: case SP_LOW: case SP_HIGH: case SREG:
                case TIMER_ENABLES: case 0xC2: case LINE_RATE_LOW: case LINE_RATE_HIGH:
                    cells[address] = v;
                    break;
                case INPUT: cells[OUTPUT] ^= v; break;
                case TIMER_FLAGS: cells[TIMER_FLAGS] &= ~v; break;
                case EEPROM_CONTROL: delay += eeprom.storeControl(v); break;
                case EEPROM_DATA: case EEPROM_ADDRESS: eeprom.storeOther(address, v); break;
                case CAUSES: cells[CAUSES] &= v; break;
                case VECTOR_CONTROL: storeVectorControl(v); break;
                case FLASH_CONTROL: flash.storeControl(v); break;
                case WATCHDOG_CONTROL: watchdog.storeControl(v); break;
                case LINE_STATE: line.storeState(v); break;
                case LINE_PARTS: line.storeParts(v); break;
                case LINE_DATA: line.storeData(v); break;
                default: break;
            }
        }

        private void storeVectorControl(int v) {
            int control = cells[VECTOR_CONTROL];
            if ((v & 1) != 0) {
                cells[VECTOR_CONTROL] = control | 1;
                vectorWindow = WINDOW;
            } else if ((control & 1) != 0) {
                cells[VECTOR_CONTROL] = v & 2;
                vectorWindow = 0;
            }
        }

        int stackPointer() {
            return (cells[SP_HIGH] << 8) | cells[SP_LOW];
        }

        private void moveStack(int sp) {
            cells[SP_HIGH] = (sp >> 8) & 0xFF;
            cells[SP_LOW] = sp & 0xFF;
        }

        void push(int v) {
            // The STORE itself may change SP; that change is overwritten.
            int sp = stackPointer();
            store(sp, v);
            moveStack(sp - 1);
        }

        int pop() {
            moveStack(stackPointer() + 1);
            return load(stackPointer());
        }
    }

    /** Results of arithmetic, with the flags of SREG that they leave. */
    private static final class Alu {
        private static final int C = 0x01;
        private static final int Z = 0x02;
        private static final int N = 0x04;
        private static final int V = 0x08;
        private static final int S = 0x10;
        private static final int H = 0x20;

        private final int[] cells;

        Alu(int[] cells) {
            this.cells = cells;
        }

        int carry() {
            return cells[SREG] & C;
        }

        int add(int x, int y, int c) {
            int sum = x + y + c;
            int exact = signed(x) + signed(y) + c;
            int flags = signs(sum & 0xFF, 0x80, exact < -128 || exact > 127);
            if (sum > 0xFF) flags |= C;
            if ((x & 15) + (y & 15) + c > 15) flags |= H;
            mark(H | S | V | N | Z | C, flags);
            return sum & 0xFF;
        }

        int subtract(int x, int y, int c) {
            int rest = x - y - c;
            int exact = signed(x) - signed(y) - c;
            int flags = signs(rest & 0xFF, 0x80, exact < -128 || exact > 127);
            if (rest < 0) flags |= C;
            if ((x & 15) - (y & 15) - c < 0) flags |= H;
            mark(H | S | V | N | Z | C, flags);
            return rest & 0xFF;
        }

        /** Goes on with a longer subtraction: Z stays only if it was (OLD Z). */
        int subtractOn(int x, int y) {
            int oldZ = cells[SREG] & Z;
            int rest = subtract(x, y, carry());
            if (oldZ == 0) cells[SREG] &= ~Z;
            return rest;
        }

        int logic(int r) {
            mark(S | V | N | Z, signs(r, 0x80, false));
            return r;
        }

        int invert(int x) {
            mark(C, C);
            return logic(0xFF - x);
        }

        /** One more or less; V is set where the result is a certain one. */
        int count(int x, int by, int overflowing) {
            int r = (x + by) & 0xFF;
            mark(S | V | N | Z, signs(r, 0x80, r == overflowing));
            return r;
        }

        int shiftRight(int x, int incoming) {
            int r = (x >> 1) | (incoming << 7);
            boolean out = (x & 1) != 0;
            boolean negative = (r & 0x80) != 0;
            mark(S | V | N | Z | C, signs(r, 0x80, negative != out) | (out ? C : 0));
            return r;
        }

        int addToPair(int pair, int k) {
            int sum = pair + k;
            int r = sum & 0xFFFF;
            markPair(r, (r & ~pair & 0x8000) != 0, sum > 0xFFFF);
            return r;
        }

        int subtractFromPair(int pair, int k) {
            int rest = pair - k;
            int r = rest & 0xFFFF;
            markPair(r, (pair & ~r & 0x8000) != 0, rest < 0);
            return r;
        }

        private void markPair(int r, boolean overflow, boolean carried) {
            mark(S | V | N | Z | C, signs(r, 0x8000, overflow) | (carried ? C : 0));
        }

        void markProduct(int product, int result) {
            mark(Z | C, ((product & 0x8000) != 0 ? C : 0) | (result == 0 ? Z : 0));
        }

        private void mark(int which, int flags) {
            cells[SREG] = (cells[SREG] & ~which) | flags;
        }

        private static int signs(int r, int signBit, boolean overflow) {
            boolean negative = (r & signBit) != 0;
            return (r == 0 ? Z : 0) | (negative ? N : 0) | (overflow ? V : 0) | (negative != overflow ? S : 0);
        }

        static int signed(int x) {
            return x < 0x80 ? x : x - 0x100;
        }
    }

    /** The processor's core: PC, and its instructions by their words. */
    private static final class Core {
        private static final int ENABLE_INTERRUPTS = 0x9478;
        private static final int RETURN_ENABLED = 0x9518;
        private static final int I = 0x80;
        private static final int T = 0x40;
        private static final int X = 26;
        private static final int Y = 28;
        private static final int Z = 30;

        private final Memory memory;
        private final Flash flash;
        private final int[] cells;
        private final Alu alu;
        int pc;
        boolean sleeps;
        /** The last step was an instruction behind which one more comes ahead of any ENTRY. */
        boolean heldBack;
        /** Where the instruction stands that is being done. */
        private int at;

        Core(Memory memory) {
            this.memory = memory;
            flash = memory.flash;
            cells = memory.cells;
            alu = new Alu(memory.cells);
        }

        void goTo(int address) {
            pc = address;
            sleeps = false;
        }

        /** The first interrupt that WAITS, or 0. */
        int waitingInterrupt() {
            if ((cells[SREG] & I) == 0) return 0;
            if ((cells[WATCHDOG_CONTROL] & 0xC0) == 0xC0) return 1;
            int timer = cells[TIMER_FLAGS] & cells[TIMER_ENABLES];
            if ((timer & 2) != 0) return 2;
            if ((timer & 1) != 0) return 3;
            int line = cells[LINE_STATE] & cells[LINE_PARTS];
            if ((line & 0x80) != 0) return 4;
            if ((line & 0x20) != 0) return 5;
            if ((line & 0x40) != 0) return 6;
            if ((cells[EEPROM_CONTROL] & 0x0A) == 0x08) return 7;
            return (cells[FLASH_CONTROL] & 0x81) == 0x80 ? 8 : 0;
        }

        /** The ENTRY of an interrupt. */
        void enter(int interrupt) {
            sleeps = false;
            pushPc();
            switch (interrupt) {
                case 1: cells[WATCHDOG_CONTROL] &= (cells[WATCHDOG_CONTROL] & 0x08) != 0 ? ~0xC0 : ~0x80; break;
                case 2: cells[TIMER_FLAGS] &= ~2; break;
                case 3: cells[TIMER_FLAGS] &= ~1; break;
                case 6: cells[LINE_STATE] &= ~0x40; break;
                default: break;
            }
            cells[SREG] &= ~I;
            pc = 2 * interrupt + ((cells[VECTOR_CONTROL] & 2) != 0 ? BOOT : 0);
        }

        /** Does the instruction at PC; the answer is its cycles, but for those that its STOREs add. */
        int instruction() {
            at = pc;
            int w = nextWord();
            heldBack = w == ENABLE_INTERRUPTS || w == RETURN_ENABLED;
            memory.delay = 0;
            switch (kind(w)) {
                case 0x0: return zeroes(w);
                case 0x1: return ones(w);
                case 0x2: return logicOfTwo(w);
                case 0x8: case 0xA: return atDistance(w);
                case 0xB: return port(w);
                case 0xC: return jumpBy(w, 2);
                case 0xD:
                    pushPc();
                    return jumpBy(w, 3);
                case 0xF: return byBit(w);
                case 0x90: return loadInto(w);
                case 0x91: return storeFrom(w);
                case 0x92:
                    if ((w & 0xC) == 0xC) return toNext(w);
                    return isControl(w) ? control(w) : ofOne(w);
                case 0x93: return ofPair(w);
                case 0x94: case 0x95: return portBit(w);
                case 0x96: case 0x97: return multiply(cells[first(w)] * cells[second(w)], false);
                default: return withNumber(w);
            }
        }

        /** A word's highest digit; with digit 9, also its next three bits. */
        private static int kind(int w) {
            int digit = w >> 12;
            return digit == 9 ? 0x90 | ((w >> 9) & 7) : digit;
        }

        private static boolean isControl(int w) {
            return (w & 15) == 8 || (w & 15) == 9;
        }

        private int nextWord() {
            int w = flash.seen(pc);
            pc = (pc + 1) & LAST_WORD;
            return w;
        }

        private static int first(int w) {
            return (w >> 4) & 31;
        }

        private static int second(int w) {
            return ((w >> 5) & 16) | (w & 15);
        }

        private int pair(int low) {
            return (cells[low + 1] << 8) | cells[low];
        }

        private void setPair(int low, int v) {
            cells[low + 1] = (v >> 8) & 0xFF;
            cells[low] = v & 0xFF;
        }

        private void pushPc() {
            int behind = pc;
            memory.push(behind & 0xFF);
            memory.push(behind >> 8);
        }

        private void popPc() {
            int high = memory.pop();
            int low = memory.pop();
            pc = ((high << 8) | low) & LAST_WORD;
        }

        /** PC turns over at 800, so the sign of these 12 bits needs no care. */
        private int jumpBy(int w, int due) {
            pc = (pc + w) & LAST_WORD;
            return due;
        }

        private int skipIf(boolean skips) {
            if (!skips) return 1;
            int w = nextWord();
            boolean hasNext = (w & 0xFC0F) == 0x9000 || (w & 0xFE0C) == 0x940C;
            if (!hasNext) return 2;
            nextWord();
            return 3;
        }

        private int zeroes(int w) {
            int d = first(w);
            int y = cells[second(w)];
            switch ((w >> 10) & 3) {
                case 1:
                    alu.subtractOn(cells[d], y);
                    return 1;
                case 2:
                    cells[d] = alu.subtractOn(cells[d], y);
                    return 1;
                case 3:
                    cells[d] = alu.add(cells[d], y, 0);
                    return 1;
                default: break;
            }
            int high = (w >> 4) & 15;
            int low = w & 15;
            switch ((w >> 8) & 3) {
                case 1:
                    setPair(2 * high, pair(2 * low));
                    return 1;
                case 2: return multiply(Alu.signed(cells[16 + high]) * Alu.signed(cells[16 + low]), false);
                case 3: return multiplyMixed(w);
                default: return 1;
            }
        }

        private int multiplyMixed(int w) {
            int x = cells[16 + ((w >> 4) & 7)];
            int y = cells[16 + (w & 7)];
            switch ((w >> 3) & 0x11) {
                case 0x00: return multiply(Alu.signed(x) * y, false);
                case 0x01: return multiply(x * y, true);
                case 0x10: return multiply(Alu.signed(x) * Alu.signed(y), true);
                default: return multiply(Alu.signed(x) * y, true);
            }
        }

        private int multiply(int product, boolean twice) {
            int result = (twice ? 2 * product : product) & 0xFFFF;
            setPair(0, result);
            alu.markProduct(product, result);
            return 2;
        }

        private int ones(int w) {
            int d = first(w);
            int x = cells[d];
            int y = cells[second(w)];
            switch ((w >> 10) & 3) {
                case 0: return skipIf(x == y);
                case 1:
                    alu.subtract(x, y, 0);
                    return 1;
                case 2:
                    cells[d] = alu.subtract(x, y, 0);
                    return 1;
                default:
                    cells[d] = alu.add(x, y, alu.carry());
                    return 1;
            }
        }

        private int logicOfTwo(int w) {
            int d = first(w);
            int y = cells[second(w)];
            switch ((w >> 10) & 3) {
                case 0: cells[d] = alu.logic(cells[d] & y); break;
                case 1: cells[d] = alu.logic(cells[d] ^ y); break;
                case 2: cells[d] = alu.logic(cells[d] | y); break;
                default: cells[d] = y; break;
            }
            return 1;
        }

        private int withNumber(int w) {
            int d = 16 + ((w >> 4) & 15);
            int k = ((w >> 4) & 0xF0) | (w & 15);
            int x = cells[d];
            switch (w >> 12) {
                case 0x3: alu.subtract(x, k, 0); break;
                case 0x4: cells[d] = alu.subtractOn(x, k); break;
                case 0x5: cells[d] = alu.subtract(x, k, 0); break;
                case 0x6: cells[d] = alu.logic(x | k); break;
                case 0x7: cells[d] = alu.logic(x & k); break;
                default: cells[d] = k; break;
            }
            return 1;
        }

        /** LOADED, STORED at Y or Z and a number. */
        private int atDistance(int w) {
            int q = ((w >> 8) & 0x20) | ((w >> 7) & 0x18) | (w & 7);
            int address = (pair((w & 8) != 0 ? Y : Z) + q) & 0xFFFF;
            if ((w & 0x200) != 0) {
                memory.store(address, cells[first(w)]);
            } else {
                cells[first(w)] = memory.load(address);
            }
            return 2;
        }

        private int loadInto(int w) {
            int d = first(w);
            switch (w & 15) {
                case 0x0: cells[d] = memory.load(nextWord()); return 2;
                case 0x1: cells[d] = loadThenMore(Z); return 2;
                case 0x2: cells[d] = memory.load(oneLess(Z)); return 2;
                case 0x4: cells[d] = flash.seenByte(pair(Z), at); return 3;
                case 0x5:
                    int b = flash.seenByte(pair(Z), at);
                    setPair(Z, pair(Z) + 1);
                    cells[d] = b;
                    return 3;
                case 0x9: cells[d] = loadThenMore(Y); return 2;
                case 0xA: cells[d] = memory.load(oneLess(Y)); return 2;
                case 0xC: cells[d] = memory.load(pair(X)); return 2;
                case 0xD: cells[d] = loadThenMore(X); return 2;
                case 0xE: cells[d] = memory.load(oneLess(X)); return 2;
                case 0xF: cells[d] = memory.pop(); return 2;
                default: return 1;
            }
        }

        private int storeFrom(int w) {
            // Rd as it was ahead of all, so it is read ahead of any change of X, Y, Z.
            int v = cells[first(w)];
            switch (w & 15) {
                case 0x0: memory.store(nextWord(), v); return 2;
                case 0x1: storeThenMore(Z, v); return 2;
                case 0x2: memory.store(oneLess(Z), v); return 2;
                case 0x9: storeThenMore(Y, v); return 2;
                case 0xA: memory.store(oneLess(Y), v); return 2;
                case 0xC: memory.store(pair(X), v); return 2;
                case 0xD: storeThenMore(X, v); return 2;
                case 0xE: memory.store(oneLess(X), v); return 2;
                case 0xF: memory.push(v); return 2;
                default: return 1;
            }
        }

        private int loadThenMore(int low) {
            int v = memory.load(pair(low));
            setPair(low, pair(low) + 1);
            return v;
        }

        private void storeThenMore(int low, int v) {
            memory.store(pair(low), v);
            setPair(low, pair(low) + 1);
        }

        private int oneLess(int low) {
            setPair(low, pair(low) - 1);
            return pair(low);
        }

        private int ofOne(int w) {
            int d = first(w);
            int x = cells[d];
            switch (w & 15) {
                case 0x0: cells[d] = alu.invert(x); break;
                case 0x1: cells[d] = alu.subtract(0, x, 0); break;
                case 0x2: cells[d] = (x >> 4) | ((x & 15) << 4); break;
                case 0x3: cells[d] = alu.count(x, 1, 0x80); break;
                case 0x5: cells[d] = alu.shiftRight(x, x >> 7); break;
                case 0x6: cells[d] = alu.shiftRight(x, 0); break;
                case 0x7: cells[d] = alu.shiftRight(x, alu.carry()); break;
                case 0xA: cells[d] = alu.count(x, -1, 0x7F); break;
                default: break;
            }
            return 1;
        }

        /** To the NEXT word's address: a jump or a call. */
        private int toNext(int w) {
            boolean calls = (w & 2) != 0;
            int target = nextWord() & LAST_WORD;
            if (calls) pushPc();
            pc = target;
            return calls ? 4 : 3;
        }

        /** Bits of SREG, and the words that are one instruction each. */
        private int control(int w) {
            if ((w & 0xFF0F) == 0x9408) return statusBit(w);
            switch (w) {
                case 0x9508:
                    popPc();
                    return 4;
                case RETURN_ENABLED:
                    popPc();
                    cells[SREG] |= I;
                    return 4;
                case 0x9588:
                    sleeps = true;
                    return 1;
                case 0x95A8:
                    memory.watchdog.count = 0;
                    return 1;
                case 0x95C8:
                    cells[0] = flash.seenByte(pair(Z), at);
                    return 3;
                case 0x95E8: return 1 + flash.program(at, pair(Z), pair(0));
                case 0x9409:
                    pc = pair(Z) & LAST_WORD;
                    return 2;
                case 0x9509:
                    pushPc();
                    pc = pair(Z) & LAST_WORD;
                    return 3;
                default: return 1;
            }
        }

        private int statusBit(int w) {
            int bit = 1 << ((w >> 4) & 7);
            if ((w & 0x80) == 0) {
                cells[SREG] |= bit;
            } else {
                cells[SREG] &= ~bit;
            }
            return 1;
        }

        private int ofPair(int w) {
            int low = 24 + 2 * ((w >> 4) & 3);
            int k = ((w >> 2) & 0x30) | (w & 15);
            boolean more = (w & 0x100) == 0;
            setPair(low, more ? alu.addToPair(pair(low), k) : alu.subtractFromPair(pair(low), k));
            return 2;
        }

        private int portBit(int w) {
            int address = JOINED + ((w >> 3) & 31);
            int bit = 1 << (w & 7);
            boolean one = (w & 0x200) != 0;
            int v = memory.load(address);
            if ((w & 0x100) != 0) return skipIf(((v & bit) != 0) == one);
            boolean alone = address == INPUT || address == TIMER_FLAGS;
            if (one) {
                memory.store(address, alone ? bit : v | bit);
            } else if (!alone) {
                memory.store(address, v & ~bit);
            }
            return 2;
        }

        private int port(int w) {
            int address = JOINED + (((w >> 5) & 0x30) | (w & 15));
            if ((w & 0x800) != 0) {
                memory.store(address, cells[first(w)]);
            } else {
                cells[first(w)] = memory.load(address);
            }
            return 1;
        }

        private int byBit(int w) {
            int number = w & 7;
            if ((w & 0x800) == 0) return branch(w, ((cells[SREG] >> number) & 1) != 0);
            if ((w & 8) != 0) return 1;
            int d = first(w);
            boolean isOne = ((cells[d] >> number) & 1) != 0;
            switch ((w >> 9) & 3) {
                case 0:
                    int t = (cells[SREG] & T) != 0 ? 1 : 0;
                    cells[d] = (cells[d] & ~(1 << number)) | (t << number);
                    return 1;
                case 1:
                    cells[SREG] = (cells[SREG] & ~T) | (isOne ? T : 0);
                    return 1;
                case 2: return skipIf(!isOne);
                default: return skipIf(isOne);
            }
        }

        private int branch(int w, boolean isOne) {
            boolean wantsOne = (w & 0x400) == 0;
            if (isOne != wantsOne) return 1;
            int k = (w >> 3) & 0x7F;
            pc = (pc + (k < 0x40 ? k : k - 0x80)) & LAST_WORD;
            return 2;
        }
    }
}
