/** Term 5's LINE at its edges: a line and a host that are empty or full, FRAMES at their ends. */
public final class EdgesOfLineTest {
    private static final Checks C = new Checks();
    /** Receives, and sends back what it has received; both as fast as can be. */
    private static final Code ECHO = new Code().set(0xC0, 2).set(0xC1, 0x18).lds(16, 0xC0).w(0xFF07, 0xCFFC).lds(17, 0xC6)
        .lds(16, 0xC0).w(0xFF05, 0xCFFC).sts(0xC6, 17).w(0xCFF3);

    public static void main(String[] args) {
        shortestAndLongestFrame();
        frameAsItBegins();
        storedWithNoRoom();
        storedWithSenderOff();
        senderOffThenOn();
        storedAsFrameEnds();
        allSentAsFrameEnds();
        allSentAgain();
        stateBits();
        beginsWithinACycle();
        hostEmpty();
        hostFull();
        hostInOrder();
        boardFull();
        readAsFrameEnds();
        receiverAtTheEnd();
        loadedEmpty();
        loadedByAll();
        notTaken();
        kept();
        C.end();
    }

    private static String hex(int v) {
        return Integer.toHexString(v);
    }

    /** "((C5's lowest 4 bits, C4) + 1) * 160 cycles, 80 if fast": of what is sent and of what comes. */
    private static void shortestAndLongestFrame() {
        int[][] rows = {{0, 0, 0, 160}, {0, 0, 2, 80}, {0, 0xF0, 0, 160}, {0xFF, 0, 0, 256 * 160}, {0, 0x0F, 2, 3841 * 80},
            {0xFF, 0xFF, 0, 4096 * 160}, {0xFF, 0x0F, 2, 4096 * 80}, {1, 0x10, 0xFD, 320}};
        for (int[] row : rows) {
            Code code = new Code().set(0xC4, row[0]).set(0xC5, row[1]).set(0xC0, row[2]).set(0xC1, 0x18).ldi(20, 0xE7).sts(0xC6, 20);
            FlashBoard b = code.w(0x9588).board(0x100);
            b.run(9);
            b.host(0x1E8);
            b.step();
            C.due("what is sent", b.about(13), row[3] - 1);
            C.due("what comes", b.about(14), row[3] - 1);
            C.due("room", b.data(0xC0), 0x20 | row[2] & 2);
            Code.passLong(b, row[3] - 2);
            C.due("a cycle yet", b.about(13), 1);
            C.due("nothing had", b.sent(), 0);
            C.due("nothing received", b.about(12), 0);
            b.step();
            C.due("had", b.sent(), 1);
            C.due("the byte", b.got(0), 0xE7);
            C.due("received", b.data(0xC6), 0xE8);
            C.due("C0", b.data(0xC0), 0xE0 | row[2] & 2);
            C.due("none is sent", b.about(13), 0);
            C.due("none comes", b.about(14), 0);
        }
    }

    /** "as it is when it begins": what is STORED later is of the next FRAME. */
    private static void frameAsItBegins() {
        Code code = new Code().set(0xC1, 0x18).sts(0xC6, 20).sts(0xC6, 20).set(0xC4, 9).set(0xC5, 1).set(0xC0, 2).w(0x9588);
        FlashBoard b = code.board(0x100);
        b.host(1);
        b.host(2);
        b.run(10);
        int left = b.about(13);
        C.due("of the first", left, 160 - 12);
        b.pass(left + 1);
        C.due("of the second", b.about(13), (0x109 + 1) * 80);
        C.due("of the host's second", b.about(14) > 20000 ? 1 : 0, 1);
    }

    /** "C6 STORED, if the sender is on and there is room ...; else lost." */
    private static void storedWithNoRoom() {
        Code code = new Code().set(0xC1, 8).ldi(20, 1).ldi(21, 2).ldi(22, 3).sts(0xC6, 20).sts(0xC6, 21).sts(0xC6, 22).sts(0xC6, 22);
        FlashBoard b = code.w(0x9588).board(0x100);
        b.run(6);
        C.due("room, for the first is sent", b.data(0xC0), 0x20);
        b.run(1);
        C.due("room is 0", b.data(0xC0), 0);
        b.run(2);
        C.due("room is 0 yet", b.data(0xC0), 0);
        b.pass(1000);
        C.due("two were sent", b.sent(), 2);
        C.due("the first", b.got(0), 1);
        C.due("the one that waited", b.got(1), 2);
    }

    private static void storedWithSenderOff() {
        for (int parts : new int[] {0x00, 0xF7, 0x10}) {
            FlashBoard b = new Code().set(0xC1, parts).ldi(20, 1).sts(0xC6, 20).set(0xC1, 8).w(0x9588).board(0x100);
            b.run(4);
            C.due("room stays", b.data(0xC0), 0x20);
            b.pass(400);
            C.due("lost, sender off", b.sent(), 0);
            C.due("not all sent", b.data(0xC0), 0x20);
        }
    }

    /** "A STORE of C1 with bit 3 0: a byte that waits is gone, room is 1." */
    private static void senderOffThenOn() {
        Code code = new Code().set(0xC1, 8).ldi(20, 1).ldi(21, 2).sts(0xC6, 20).sts(0xC6, 21).set(0xC1, 0xF7).set(0xC1, 8).w(0x9588);
        FlashBoard b = code.board(0x100);
        b.run(6);
        C.due("one waits", b.data(0xC0), 0);
        b.run(2);
        C.due("gone, room", b.data(0xC0), 0x20);
        C.due("C1", b.data(0xC1), 0xF7);
        C.due("what is sent goes on", b.about(13) > 0 ? 1 : 0, 1);
        b.pass(1000);
        C.due("the first alone", b.sent(), 1);
        C.due("all sent", b.data(0xC0), 0x60);
        code = new Code().set(0xC1, 8).ldi(20, 1).ldi(21, 2).sts(0xC6, 20).sts(0xC6, 21).set(0xC1, 0x08).w(0x9588);
        b = code.board(0x100);
        b.pass(1000);
        C.due("a STORE with bit 3 1 leaves it", b.sent(), 2);
    }

    /** "at its end the host has it, and if none waits bit 6 is 1": one that waits since that very instruction. */
    private static void storedAsFrameEnds() {
        for (int left = 1; left <= 3; left++) {
            FlashBoard b = new Code().set(0xC1, 8).ldi(20, 1).sts(0xC6, 20).w(0x9588).board(0x100);
            new Code().sts(0xC6, 21).w(0x9588).burn(b, 0x180);
            b.put(21, 0x5B);
            b.run(4);
            b.pass(159 - left);
            C.due("left", b.about(13), left);
            b.start(0x180);
            b.step();
            C.due("had, " + left, b.sent(), left <= 2 ? 1 : 0);
            C.due("C0, for one waits, " + left, b.data(0xC0), left == 1 ? 0x20 : 0);
            C.due("the next FRAME, " + left, b.about(13), left == 1 ? 160 : left == 2 ? 0 : 1);
            b.pass(400);
            C.due("both", b.sent(), 2);
            C.due("the second", b.got(1), 0x5B);
        }
    }

    /** "a STORED 1 makes bit 6 0", in the very cycle in which a FRAME ends: first the STORE, then the cycle. */
    private static void allSentAsFrameEnds() {
        for (int left = 1; left <= 3; left++) {
            FlashBoard b = new Code().set(0xC1, 8).ldi(20, 1).sts(0xC6, 20).w(0x9588).board(0x100);
            new Code().sts(0xC0, 21).w(0x9588).burn(b, 0x180);
            b.put(21, 0x40);
            b.run(4);
            b.pass(159 - left);
            b.start(0x180);
            b.pass(10);
            C.due("bit 6, " + left, b.data(0xC0), 0x60);
            b.start(0x180);
            b.step();
            C.due("bit 6 by a STORE", b.data(0xC0), 0x20);
        }
    }

    /** "at its end the host has it, and if none waits bit 6 is 1": when it was 1 already, too. */
    private static void allSentAgain() {
        FlashBoard b = new Code().set(0xC1, 8).sts(0xC6, 20).w(0x9588).board(0x100);
        for (int sent = 1; sent <= 3; sent++) {
            b.start(0x100);
            b.pass(200);
            C.due("bit 6", b.data(0xC0), 0x60);
            C.due("sent", b.sent(), sent);
        }
    }

    /** "Of C0 bit 1 is STORED, and a STORED 1 makes bit 6 0": all other bits are as they were. */
    private static void stateBits() {
        for (int v = 0; v < 256; v++) {
            FlashBoard b = new Code().set(0xC1, 0x18).sts(0xC6, 20).w(0x9588).board(0x100);
            new Code().sts(0xC0, 21).w(0x9588).burn(b, 0x180);
            for (int i = 0; i < 3; i++) b.host(i);
            b.pass(600);
            C.due("received, all sent, room, lost", b.data(0xC0), 0xE8);
            b.put(21, v);
            b.start(0x180);
            b.step();
            C.due("C0 by " + hex(v), b.data(0xC0), 0xA8 | (v & 0x40 ^ 0x40) | v & 2);
        }
        FlashBoard b = new Code().set(0xC0, 0xFF).set(0xC0, 0xFD).w(0x9588).board(0x100);
        b.run(2);
        C.due("of a new C0", b.data(0xC0), 0x22);
        b.run(2);
        C.due("bit 1 is 0", b.data(0xC0), 0x20);
    }

    /** "it is sent from now on, room is 1, and that is all of the cycle for it". */
    private static void beginsWithinACycle() {
        FlashBoard b = new Code().set(0xC1, 8).out(0x3E, 20).w(0x9588).board(0x100);
        // PUSH of a byte into C6: 2 cycles, of which the first begins the FRAME.
        new Code().w(0x934F, 0x9588).burn(b, 0x180);
        b.run(2);
        b.start(0x180);
        Code.pair(b, 0x5D, 0xC6);
        b.put(20, 0x99);
        b.step();
        C.due("by PUSH", b.about(13), 159);
        C.due("room", b.data(0xC0), 0x20);
        b.pass(200);
        C.due("sent", b.got(0), 0x99);
        // A byte that waits behind a FRAME begins in the cycle behind its end.
        b = new Code().set(0xC1, 8).sts(0xC6, 20).sts(0xC6, 20).w(0x9588).board(0x100);
        b.run(4);
        b.pass(b.about(13));
        C.due("at the end: had", b.sent(), 1);
        C.due("at the end: none is sent", b.about(13), 0);
        C.due("at the end: no room yet", b.data(0xC0), 0);
        b.step();
        C.due("a cycle later: it is sent", b.about(13), 160);
        C.due("room", b.data(0xC0), 0x20);
    }

    /** "if nothing comes and a byte waits at the host": none waits. */
    private static void hostEmpty() {
        FlashBoard b = new Code().set(0xC1, 0x10).w(0x9588).board(0x100);
        C.due("none waits", b.about(11), 0);
        b.pass(1000);
        C.due("none comes", b.about(14), 0);
        C.due("none is received", b.data(0xC0), 0x20);
        C.due("one", b.host(0), 1);
        b.step();
        C.due("it comes: none waits", b.about(11), 0);
        C.due("it comes", b.about(14), 160);
        C.due("one again", b.host(0), 1);
        b.pass(160);
        C.due("0 is received, too", b.about(12), 1);
    }

    /** "how many wait then. NONE: 300 do already." */
    private static void hostFull() {
        FlashBoard b = new Code().set(0xC1, 0x10).w(0x9588).board(0x100);
        for (int i = 1; i <= 300; i++) C.due("host", b.host(i), i);
        C.due("300 wait", b.host(77), FlashBoard.NONE);
        C.due("and once more", b.host(77), FlashBoard.NONE);
        C.due("these wait", b.about(11), 300);
        b.step();
        C.due("the one that comes waits no more", b.about(11), 299);
        C.due("room for one", b.host(78), 300);
        C.due("for no other", b.host(79), FlashBoard.NONE);
        b.power(false);
        C.due("without power, too", b.host(80), FlashBoard.NONE);
        b.power(true);
        C.due("these stay", b.about(11), 300);
        b.reset();
        C.due("behind a RESET, too", b.host(80), FlashBoard.NONE);
    }

    /** A host that is full and empty by turns: the bytes come in their order. */
    private static void hostInOrder() {
        FlashBoard b = ECHO.board(0x100);
        for (int i = 0; i < 300; i++) b.host(i * 7);
        b.pass(81 * 250);
        int left = b.about(11);
        C.due("some wait", left > 20 && left < 80 ? 1 : 0, 1);
        for (int i = 300; i < 350; i++) C.due("host", b.host(i * 7), left + i - 299);
        b.pass(81 * 130);
        C.due("none waits", b.about(11), 0);
        C.due("all came back", b.sent(), 350);
        for (int i = 0; i < 350; i += 5) C.due("got " + i, b.got(i), i * 7 & 255);
        C.due("the last", b.got(349), 349 * 7 & 255);
    }

    /** "and less than two wait to be read; else it is lost, and, with the receiver on, bit 3 is 1". */
    private static void boardFull() {
        FlashBoard b = new Code().set(0xC1, 0x10).w(0x9588).board(0x100);
        new Code().lds(20, 0xC6).lds(21, 0xC6).lds(22, 0xC6).w(0x9588).burn(b, 0x180);
        b.run(3);
        for (int i = 0; i < 6; i++) b.host(0x10 + i);
        int[] waiting = {1, 2, 2, 2};
        int[] state = {0xA0, 0xA0, 0xA8, 0xA8};
        for (int i = 0; i < 4; i++) {
            b.pass(161);
            C.due("received " + i, b.about(12), waiting[i]);
            C.due("C0 " + i, b.data(0xC0), state[i]);
        }
        b.start(0x180);
        b.run(1);
        C.due("the first", b.data(20), 0x10);
        C.due("bit 3 is 0 then", b.data(0xC0), 0xA0);
        C.due("one waits", b.about(12), 1);
        b.run(1);
        C.due("the second", b.data(21), 0x11);
        C.due("bit 7 is 0 then", b.data(0xC0), 0x20);
        C.due("none waits", b.about(12), 0);
        b.run(2);
        C.due("0 without", b.data(22), 0);
        b.pass(161);
        C.due("the fifth, for two were lost", b.data(0xC6), 0x14);
    }

    /** A byte that is read in the cycle in which the next ends makes room for it. */
    private static void readAsFrameEnds() {
        for (int left = 1; left <= 3; left++) {
            FlashBoard b = new Code().set(0xC1, 0x10).w(0x9588).board(0x100);
            new Code().lds(20, 0xC6).w(0x9588).burn(b, 0x180);
            b.run(3);
            for (int i = 0; i < 3; i++) b.host(0x10 + i);
            b.pass(161 * 3 - left);
            C.due("two wait", b.about(12), 2);
            C.due("left", b.about(14), left);
            b.start(0x180);
            b.pass(5);
            C.due("none is lost, " + left, b.data(0xC0), 0xA0);
            C.due("two wait again", b.about(12), 2);
            C.due("the first", b.data(20), 0x10);
            C.due("the second waits", b.data(0xC6), 0x11);
        }
        FlashBoard b = new Code().set(0xC1, 0x10).w(0x9588).board(0x100);
        new Code().lds(20, 0xC6).w(0x9588).burn(b, 0x180);
        b.run(3);
        for (int i = 0; i < 3; i++) b.host(0x10 + i);
        b.pass(161 * 3);
        b.start(0x180);
        b.step();
        C.due("a cycle later it is lost", b.about(12), 1);
        C.due("bit 3 was 1, and is 0 by the LOAD", b.data(0xC0), 0xA0);
    }

    /** "at its end it is received if the receiver is on": as it is at the end. */
    private static void receiverAtTheEnd() {
        for (int on = 0; on < 2; on++) {
            for (int left = 1; left <= 3; left++) {
                FlashBoard b = new Code().set(0xC1, on == 0 ? 0x10 : 0).w(0x9588).board(0x100);
                new Code().sts(0xC1, 20).w(0x9588).burn(b, 0x180);
                b.put(20, on == 0 ? 0xEF : 0x10);
                b.run(3);
                b.host(0x33);
                b.pass(161 - left);
                C.due("left", b.about(14), left);
                b.start(0x180);
                b.pass(5);
                C.due("received, " + on, b.about(12), on);
                C.due("C0", b.data(0xC0), on == 1 ? 0xA0 : 0x20);
                C.due("C6", b.data(0xC6), on == 1 ? 0x33 : 0);
            }
        }
        // With the receiver off, and two that wait: lost, and bit 3 stays.
        FlashBoard b = new Code().set(0xC1, 0x10).w(0x9588).board(0x100);
        new Code().set(0xC1, 0).w(0x9588).burn(b, 0x180);
        b.run(3);
        for (int i = 0; i < 3; i++) b.host(i + 1);
        b.pass(161 * 2);
        b.start(0x180);
        b.pass(200);
        C.due("bit 3 stays 0", b.data(0xC0), 0xA0);
        C.due("two wait on", b.about(12), 2);
        C.due("none waits at the host", b.about(11), 0);
    }

    private static void loadedEmpty() {
        FlashBoard b = new Code().lds(20, 0xC6).lds(21, 0xC0).board(0x100);
        b.put(20, 9);
        b.run(2);
        C.due("0 without", b.data(20), 0);
        C.due("C0", b.data(21), 0x20);
        C.due("none", b.about(12), 0);
    }

    /** "C6 LOADED: the first of these ..., which is taken": by whatever LOADS. */
    private static void loadedByAll() {
        int[][] rows = {{0x914C, 26, 0xC6}, {0x914D, 26, 0xC6}, {0x914E, 26, 0xC7}, {0x8148, 28, 0xC6}, {0x8D4F, 28, 0xC6 - 0x1F},
            {0x9141, 30, 0xC6}, {0x914F, 0x5D, 0xC5}};
        for (int[] row : rows) {
            FlashBoard b = new Code().set(0xC1, 0x10).w(0x9588).board(0x100);
            new Code().w(row[0], 0x9588).burn(b, 0x180);
            b.host(0x41);
            b.host(0x42);
            b.pass(400);
            C.due("two", b.about(12), 2);
            b.start(0x180);
            Code.pair(b, row[1], row[2]);
            b.step();
            C.due(hex(row[0]) + " LOADS the first", b.data(20), 0x41);
            C.due("which is taken", b.about(12), 1);
            C.due("the next", b.data(0xC6), 0x42);
        }
        // RET takes both: the high byte is the first.
        FlashBoard b = new Code().set(0xC1, 0x10).w(0x9588).board(0x100);
        new Code().w(0x9508).burn(b, 0x180);
        b.host(0x43);
        b.pass(300);
        b.start(0x180);
        Code.pair(b, 0x5D, 0xC4);
        b.step();
        C.due("RET's low byte out of C6", b.about(0), 0x043);
        C.due("is taken", b.about(12), 0);
    }

    /** What STORES C6, tells it by data, or leaves a LOAD out, takes nothing. */
    private static void notTaken() {
        FlashBoard b = new Code().set(0xC1, 0x18).w(0x9588).board(0x100);
        new Code().sts(0xC6, 20).w(0x1000, 0x9140, 0x00C6, 0x9588).burn(b, 0x180);
        for (int i = 0; i < 3; i++) b.host(0x41 + i);
        b.pass(600);
        C.due("lost", b.data(0xC0), 0xA8);
        for (int i = 0; i < 3; i++) C.due("data", b.data(0xC6), 0x41);
        C.due("two", b.about(12), 2);
        C.due("bit 3 stays", b.data(0xC0), 0xA8);
        b.start(0x180);
        b.run(3);
        C.due("two yet", b.about(12), 2);
        C.due("C0", b.data(0xC0), 0xA8);
        C.due("the first yet", b.data(0xC6), 0x41);
    }

    /** "How many bytes the host has had from the board; the first 1000 are kept." */
    private static void kept() {
        // R16 counts by one a FRAME of 80 cycles, beginning with 0.
        Code code = new Code().set(0xC0, 2).set(0xC1, 8).lds(17, 0xC0).w(0xFF15, 0xCFFC).sts(0xC6, 16).w(0x9503, 0xCFF8);
        FlashBoard b = code.board(0x100);
        Code.passLong(b, 9 + 81 * 999);
        untilSent(b, 999);
        C.due("999 are had", b.sent(), 999);
        C.due("the last of them", b.got(998), 998 & 255);
        thrown("got(999)", b, 999);
        untilSent(b, 1000);
        C.due("1000 are had", b.sent(), 1000);
        C.due("the last that is kept", b.got(999), 999 & 255);
        thrown("got(1000)", b, 1000);
        untilSent(b, 1001);
        C.due("1001 are had", b.sent(), 1001);
        thrown("got(1000), which is not kept", b, 1000);
        C.due("the first", b.got(0), 0);
        C.due("the last that is kept", b.got(999), 999 & 255);
        b.pass(100000);
        C.due("more are had", b.sent() > 2200 ? 1 : 0, 1);
        for (int i = 0; i < 1000; i += 37) C.due("got " + i, b.got(i), i & 255);
        thrown("got(1001)", b, 1001);
        thrown("got(2000)", b, 2000);
        b.reset();
        C.due("the host keeps them", b.got(700), 700 & 255);
    }

    private static void untilSent(FlashBoard b, int n) {
        for (int i = 0; i < 20 && b.sent() < n; i++) b.pass(20);
    }

    private static void thrown(String what, FlashBoard b, int i) {
        C.dueThrow(what, java.util.NoSuchElementException.class, () -> b.got(i));
    }
}
