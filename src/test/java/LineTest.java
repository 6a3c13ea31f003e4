/** The serial line: frames, room, what is received, what is lost. */
public final class LineTest {
    private static final Checks C = new Checks();

    public static void main(String[] args) {
        send();
        sendTwo();
        notSent();
        senderOff();
        frames();
        receive();
        lost();
        receiverOff();
        state();
        resetGone();
        C.end();
    }

    private static void send() {
        FlashBoard b = new Code().set(0xC1, 8).ldi(20, 0xA7).sts(0xC6, 20).w(0x9588).board(0);
        b.run(3);
        C.due("C0", b.data(0xC0), 0x20);
        b.run(1);
        // The first cycle of that store begins the frame, the second shortens it.
        C.due("it is sent", b.about(13), 159);
        C.due("room", b.data(0xC0), 0x20);
        b.pass(158);
        C.due("not sent yet", b.sent(), 0);
        C.due("a cycle yet", b.about(13), 1);
        C.due("C0 yet", b.data(0xC0), 0x20);
        b.step();
        C.due("sent", b.sent(), 1);
        C.due("the byte", b.got(0), 0xA7);
        C.due("all sent", b.data(0xC0), 0x60);
        C.due("no frame", b.about(13), 0);
        C.due("C6 is not what was STORED", b.data(0xC6), 0);
    }

    private static void sendTwo() {
        FlashBoard b = new Code().set(0xC1, 8).ldi(20, 1).ldi(21, 2).ldi(22, 3).sts(0xC6, 20).sts(0xC6, 21).sts(0xC6, 22)
            .w(0x9588).board(0);
        b.run(7);
        C.due("no room", b.data(0xC0), 0);
        b.run(2);
        int left = b.about(13);
        C.due("the first is sent", left, 160 - 6);
        b.pass(left);
        C.due("had one", b.sent(), 1);
        C.due("one waits: not all is sent", b.data(0xC0), 0);
        C.due("nothing is sent in that cycle", b.about(13), 0);
        b.step();
        C.due("the second begins", b.about(13), 160);
        C.due("room", b.data(0xC0), 0x20);
        b.pass(160);
        C.due("had two", b.sent(), 2);
        C.due("all sent", b.data(0xC0), 0x60);
        b.pass(500);
        C.due("the third is lost", b.sent(), 2);
        C.due("got", b.got(0) * 16 + b.got(1), 0x12);
    }

    private static void notSent() {
        FlashBoard b = new Code().ldi(20, 1).sts(0xC6, 20).set(0xC1, 8).w(0x9588).board(0);
        b.run(4);
        b.pass(400);
        C.due("lost with the sender off", b.sent(), 0);
        C.due("C0", b.data(0xC0), 0x20);
    }

    private static void senderOff() {
        Code code = new Code().set(0xC1, 8).ldi(20, 1).sts(0xC6, 20).sts(0xC6, 20).set(0xC1, 0x90).w(0x9588);
        FlashBoard b = code.board(0);
        b.run(5);
        C.due("no room", b.data(0xC0), 0);
        b.run(2);
        C.due("what waits is gone, room", b.data(0xC0), 0x20);
        C.due("C1 holds", b.data(0xC1), 0x90);
        b.pass(600);
        C.due("what is sent goes on", b.sent(), 1);
        C.due("all sent", b.data(0xC0), 0x60);
        code = new Code().set(0xC1, 8).ldi(20, 1).sts(0xC6, 20).sts(0xC6, 20).set(0xC1, 0x98).w(0x9588);
        b = code.board(0);
        b.run(7);
        C.due("with bit 3 it waits on", b.data(0xC0), 0);
    }

    private static void frames() {
        int[][] rows = {{0, 0, 160}, {1, 0, 320}, {0, 1, 257 * 160}, {0xFF, 0xFF, 4096 * 160}, {2, 0xF0, 480}};
        for (int[] row : rows) {
            for (int fast = 0; fast < 3; fast += 2) {
                Code code = new Code().set(0xC4, row[0]).set(0xC5, row[1]).set(0xC0, fast).set(0xC1, 8).ldi(24, 3).sts(0xC6, 24);
                FlashBoard b = code.set(0xC4, 9).set(0xC0, 2 - fast).w(0x9588).board(0);
                b.run(10);
                int due = fast == 2 ? row[2] / 2 : row[2];
                C.due("frame", b.about(13), due - 1);
                b.run(5);
                int left = due - 1 - 7;
                C.due("as it was when it began", b.about(13), left);
                while (left > 1) left -= b.pass(Math.min(200000, left - 1));
                C.due("not yet", b.sent(), 0);
                b.step();
                C.due("sent", b.sent(), 1);
            }
        }
    }

    private static void receive() {
        FlashBoard b = new Code().set(0xC1, 0x10).w(0x9588).board(0);
        new Code().lds(20, 0xC6).lds(21, 0xC6).lds(22, 0xC6).burn(b, 0x20);
        b.run(3);
        b.host(0x1C3);
        b.host(0x99);
        C.due("waits at the host", b.about(11), 2);
        b.step();
        C.due("comes", b.about(14), 160);
        C.due("one waits at the host", b.about(11), 1);
        b.pass(159);
        C.due("not yet", b.data(0xC0), 0x20);
        C.due("a cycle yet", b.about(14), 1);
        b.step();
        C.due("received", b.data(0xC0), 0xA0);
        C.due("one waits", b.about(12), 1);
        C.due("the next does not come in that cycle", b.about(14), 0);
        b.step();
        C.due("but in the next", b.about(14), 160);
        b.pass(160);
        C.due("two wait", b.about(12), 2);
        b.start(0x20);
        b.run(1);
        C.due("the first", b.data(20), 0xC3);
        C.due("bit 7 yet", b.data(0xC0), 0xA0);
        b.run(1);
        C.due("the second", b.data(21), 0x99);
        C.due("none waits", b.data(0xC0), 0x20);
        b.run(1);
        C.due("0 without", b.data(22), 0);
        C.due("none", b.about(12), 0);
    }

    private static void lost() {
        FlashBoard b = new Code().set(0xC1, 0x10).w(0x9588).board(0);
        new Code().lds(20, 0xC6).lds(21, 0xC6).lds(22, 0xC6).burn(b, 0x20);
        b.run(3);
        for (int i = 1; i <= 4; i++) b.host(i);
        b.pass(161 * 2);
        C.due("two", b.data(0xC0), 0xA0);
        b.pass(161);
        C.due("lost", b.data(0xC0), 0xA8);
        C.due("two wait", b.about(12), 2);
        b.start(0x20);
        b.run(1);
        C.due("bit 3 is 0 then", b.data(0xC0), 0xA0);
        C.due("the first", b.data(20), 1);
        b.run(1);
        C.due("the second", b.data(21), 2);
        b.pass(200);
        C.due("then the fourth", b.data(0xC6), 4);
    }

    private static void receiverOff() {
        FlashBoard b = new Code().w(0x9588).board(0);
        new Code().set(0xC1, 0x10).w(0x9588).burn(b, 0x20);
        b.host(1);
        b.host(2);
        b.pass(10);
        C.due("it comes all the same", b.about(14), 160 - 9);
        b.pass(200);
        C.due("but is lost", b.data(0xC0), 0x20);
        b.start(0x20);
        b.pass(200);
        C.due("on at the end of the frame: received", b.data(0xC6), 2);
        // Received bytes wait on when the receiver goes off.
        b = new Code().set(0xC1, 0x10).w(0x9588).board(0);
        new Code().set(0xC1, 0).w(0x9588).burn(b, 0x20);
        for (int i = 1; i <= 3; i++) b.host(i);
        b.pass(330);
        b.start(0x20);
        b.pass(300);
        C.due("without the receiver bit 3 stays 0", b.data(0xC0), 0xA0);
        C.due("two wait", b.about(12), 2);
    }

    private static void state() {
        FlashBoard b = new Code().set(0xC0, 0xFF).set(0xC1, 8).sts(0xC6, 20).w(0x9588).board(0);
        new Code().set(0xC0, 0xBF).set(0xC0, 0x40).w(0x9588).burn(b, 0x20);
        b.run(2);
        C.due("bit 1 alone is STORED", b.data(0xC0), 0x22);
        b.pass(200);
        C.due("all sent", b.data(0xC0), 0x62);
        b.start(0x20);
        b.run(2);
        C.due("a STORED 0 at bit 6 does nothing", b.data(0xC0), 0x62);
        b.run(2);
        C.due("a STORED 1 makes it 0", b.data(0xC0), 0x20);
    }

    private static void resetGone() {
        FlashBoard b = new Code().set(0xC1, 0x18).sts(0xC6, 20).sts(0xC6, 20).w(0x9588).board(0);
        for (int i = 0; i < 5; i++) b.host(i);
        b.fuses(15);
        b.pass(500);
        C.due("received ahead of it", b.about(12), 2);
        b.reset();
        C.due("gone", b.about(12), 0);
        C.due("nothing comes", b.about(14), 0);
        C.due("C0", b.data(0xC0), 0x20);
        int left = b.about(11);
        C.due("what waits at the host stays", left, 1);
        C.due("the host has had", b.sent(), 2);
    }
}
