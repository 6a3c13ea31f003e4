/** Flash that writes itself: the BUFFER, pages, BUSY, the WINDOW of 57, LOCKS, and BYTES OF FLASH. */
public final class FlashTest {
    private static final Checks C = new Checks();
    private static final int FREE = 0x700;

    public static void main(String[] args) {
        window();
        buffer();
        applicationPage();
        bootPage();
        application();
        busy();
        endOfBusy();
        locksOfPages();
        lockBits();
        fuseBytes();
        hiddenBytes();
        bytesAtTheEdge();
        others();
        C.end();
    }

    private static void window() {
        for (int nops = 0; nops <= 4; nops++) {
            FlashBoard b = new Code().ldi(24, 1).out(0x57, 24).nops(nops).w(0x95E8).board(FREE);
            b.run(2);
            C.due("57", b.data(0x57), 1);
            C.due("WINDOW", b.about(16), 3);
            b.run(nops == 0 ? 1 : nops);
            if (nops > 0) C.due("WINDOW behind " + nops, b.about(16), 3 - nops < 0 ? 0 : 3 - nops);
            C.due("57 behind " + nops, b.data(0x57), nops == 0 || nops >= 3 ? 0 : 1);
            if (nops > 0) b.step();
            C.due("BUFFER behind " + nops, b.about(8), nops < 3 ? 1 : 0);
            C.due("WINDOW is over", b.about(16), 0);
        }
        FlashBoard b = new Code().ldi(24, 3).out(0x57, 24).ldi(24, 0x1E).out(0x57, 24).w(0x95E8).board(FREE);
        b.run(4);
        C.due("without bit 0 no WINDOW", b.about(16), 0);
        C.due("but the bits stay", b.data(0x57), 0x1E);
        b.run(1);
        b.pass(10);
        C.due("and nothing is done", b.data(0x57), 0x1E);
        b = new Code().ldi(24, 0xFF).out(0x57, 24).board(FREE);
        b.run(2);
        C.due("bits 6 and 5 are not STORED", b.data(0x57), 0x9F);
        b = new Code().ldi(24, 1).out(0x57, 24).nops(2).out(0x57, 24).board(FREE);
        b.run(5);
        C.due("the WINDOW begins anew", b.about(16), 3);
    }

    private static void buffer() {
        Code code = new Code().z(0x0042).ldi(16, 0x34).ldi(17, 0x12).w(0x2E00, 0x2E11).spm(1).ldi(16, 0xFF).w(0x2E00).spm(1);
        code.z(0xFFFF).spm(1).spm(0x11);
        FlashBoard b = code.board(FREE);
        b.run(9);
        C.due("one word", b.about(8), 1);
        C.due("57 is over", b.data(0x57), 0);
        b.run(5);
        C.due("a word is filled once", b.about(8), 1);
        b.run(5);
        C.due("two words", b.about(8), 2);
        b.run(3);
        C.due("emptied", b.about(8), 0);
        b.run(1);
        C.due("no flash was written", b.word(0x21), 0xFFFF);
    }

    /** R1 R0 is 1234, at word 1 of page 2; then page 2 by a command. */
    private static Code filled(int command) {
        return new Code().z(0x0082).ldi(16, 0x34).ldi(17, 0x12).w(0x2E00, 0x2E11).spm(1).spm(command);
    }

    private static void applicationPage() {
        FlashBoard b = filled(5).nops(1).lds(18, 0x57).board(FREE);
        b.burn(0x40, 0xFFFF0F35, 0xFFFFFFFF, -1, -1, -1);
        b.run(11);
        C.due("WRITE takes a cycle", b.step(), 1);
        C.due("ands", b.word(0x41), 0x0F35 & 0x1234);
        C.due("only what there is", b.word(0x40), 0xFFFF);
        C.due("BUFFER is empty", b.about(8), 0);
        C.due("BUSY", b.about(7), 7999);
        C.due("57", b.data(0x57), 0x45);
        C.due("no WINDOW", b.about(16), 0);
        b.pass(7998);
        C.due("BUSY yet", b.about(7), 1);
        C.due("57 yet", b.data(0x57), 0x45);
        b.step();
        C.due("BUSY no more", b.about(7), 0);
        C.due("57 at the end", b.data(0x57), 0x40);
        b = filled(3).board(FREE);
        for (int i = 0x30; i < 0x70; i += 10) b.burn(i, 0, 0, 0, 0, 0);
        b.run(12);
        for (int a = 0x30; a < 0x6A; a++) C.due("ERASE " + a, b.word(a), a >= 0x40 && a < 0x60 ? 0xFFFF : 0);
        C.due("57", b.data(0x57), 0x43);
        C.due("BUFFER stays", b.about(8), 1);
        // Z / 64 MOD 64: pages come again every 1000 of Z.
        b = new Code().z(0x1080).spm(3).board(FREE);
        b.burn(0x40, 0, 0, 0, 0, 0);
        b.run(5);
        C.due("page of a high Z", b.word(0x40), 0xFFFF);
    }

    private static void bootPage() {
        FlashBoard b = new Code().z(0xFC0).spm(3).nops(1).z(0xFC2).spm(1).spm(5).board(FREE);
        b.burn(0x7E0, 0x11112222, 0, 0, 0, 0);
        b.burn(0x7D6, 0x33334444, 0x33334444, 0x33334444, 0x33334444, 0x33334444);
        b.run(4);
        C.due("ERASE of a page of the BOOT SECTION", b.step(), 8001);
        C.due("57", b.data(0x57), 0);
        C.due("not BUSY", b.about(7), 0);
        C.due("erased", b.word(0x7E0), 0xFFFF);
        C.due("the page ahead stays", b.word(0x7DF), 0x4444);
        C.due("cycles", b.about(3), 8005);
        b.put(0, 0x12);
        b.put(1, 0x34);
        b.run(8);
        C.due("WRITE of a page of the BOOT SECTION", b.step(), 8001);
        C.due("written", b.word(0x7E1), 0x3412);
        C.due("first word", b.word(0x7E0), 0xFFFF);
        C.due("57 again", b.data(0x57), 0);
    }

    private static void application() {
        FlashBoard b = new Code().spm(1).board(0x5F0);
        b.run(2);
        b.step();
        C.due("nothing in the APPLICATION", b.about(8), 0);
        C.due("and the WINDOW goes on", b.about(16), 2);
        b = new Code().spm(1).board(0x5FE);
        b.run(3);
        C.due("at 600 it is done", b.about(8), 1);
    }

    private static void busy() {
        Code code = filled(3).ldi(24, 0x81).out(0x57, 24).w(0x95E8).ldi(24, 0x11).out(0x57, 24).w(0x95E8);
        code.w(0x940C, 0x0010);
        FlashBoard b = code.board(FREE);
        new Code().ldi(20, 1).w(0xC010).ldi(20, 2).burn(b, 0x10);
        b.run(14);
        C.due("bit 7 alone is STORED", b.data(0x57), 0xC3);
        C.due("no WINDOW", b.about(16), 0);
        b.run(1);
        C.due("nothing while it is BUSY", b.about(8), 1);
        b.run(3);
        C.due("still BUSY", b.data(0x57), 0x43);
        b.run(2);
        C.due("words of the APPLICATION are read as FFFF", b.about(0), 0x11);
        C.due("but they are as they are", b.word(0x10), 0xE041);
        b.run(1);
        C.due("FFFF is nothing", b.about(0), 0x12);
        C.due("R20", b.data(20), 0);
    }

    private static void endOfBusy() {
        Code code = new Code().z(0).spm(3).lds(18, 0x57).w(0xFD20, 0xCFFC).w(0x9144).spm(0x11).w(0x9154);
        FlashBoard b = code.board(FREE);
        b.run(5);
        b.pass(8020);
        b.burn(0x20, 0, 0, 0, 0, 0);
        b.burn(0, 0x12345678, 0, 0, 0, 0);
        C.due("bit 6 is unlocked", b.data(0x57), 0);
        C.due("a BYTE of the APPLICATION was FF", b.data(20), 0xFF);
        b = new Code().z(0).spm(3).lds(18, 0x57).w(0xFD20, 0xCFFC).w(0x9144).spm(0x11).w(0x9154).board(FREE);
        b.run(5);
        b.burn(0, 0x12345678, 0, 0, 0, 0);
        b.pass(8030);
        C.due("with bit 6", b.data(20), 0xFF);
        C.due("without it", b.data(21), 0x34);
        b = new Code().z(0xE00).spm(3).board(FREE);
        b.run(5);
        b.reset();
        C.due("a RESET ends all", b.data(0x57), 0);
        C.due("BUSY", b.about(7), 0);
    }

    private static void locksOfPages() {
        for (int locks = 0; locks < 16; locks++) {
            FlashBoard b = filled(5).z(0xFC2).spm(1).spm(5).board(FREE);
            b.fuses(0x10 | locks);
            b.run(11);
            boolean may = (locks & 1) != 0;
            b.step();
            C.due("WRITE in the APPLICATION, LOCKS " + locks, b.word(0x41), may ? 0x1234 : 0xFFFF);
            C.due("BUSY", b.about(7), may ? 7999 : 0);
            C.due("57", b.data(0x57), may ? 0x45 : 0);
            C.due("BUFFER", b.about(8), may ? 0 : 1);
            b = new Code().z(0xFC0).w(0x95E8).spm(1).spm(5).board(FREE);
            b.fuses(locks);
            b.run(8);
            may = (locks & 4) != 0;
            C.due("WRITE in the BOOT SECTION, LOCKS " + locks, b.step(), may ? 8001 : 1);
            C.due("57", b.data(0x57), 0);
            C.due("word", b.word(0x7E0), may ? 0 : 0xFFFF);
        }
        FlashBoard b = new Code().z(0).spm(3).z(0xFC0).spm(3).board(FREE);
        b.burn(0, 0, 0, 0, 0, 0);
        b.burn(0x7E0, 0, 0, 0, 0, 0);
        b.fuses(0x1A);
        b.run(5);
        C.due("no ERASE in the APPLICATION", b.word(0), 0);
        b.run(4);
        C.due("one cycle", b.step(), 1);
        C.due("no ERASE in the BOOT SECTION", b.word(0x7E0), 0);
    }

    private static void lockBits() {
        for (int r0 = 0; r0 < 256; r0 += 5) {
            FlashBoard b = new Code().ldi(24, 9).out(0x57, 24).w(0x95E8).board(FREE);
            b.put(0, r0);
            b.fuses(0x1D);
            b.run(3);
            C.due("57 behind the locks", b.data(0x57), 0);
            C.due("LOCKS by R0 " + r0, b.fuses(31), 0x10 | 0x0D & r0 >> 2);
        }
    }

    private static void fuseBytes() {
        for (int z = 0; z < 3; z++) {
            for (int at : new int[] {FREE, 0x200}) {
                Code code = new Code().z(z).ldi(24, 9).out(0x57, 24).w(0x9144).w(0x9154);
                FlashBoard b = code.board(at);
                b.burn(0, 0xA1A2A3A4, 0, 0, 0, 0);
                b.fuses(0x05 | (z == 1 ? 0 : 0x10));
                b.run(4);
                C.due("LPM in the WINDOW", b.step(), 3);
                C.due("of Z " + z, b.data(20), z == 0 ? 0xFF : z == 1 ? 0xF5 : 0xFF);
                C.due("57", b.data(0x57), 0);
                C.due("WINDOW", b.about(16), 0);
            }
        }
        FlashBoard b = new Code().z(0).ldi(24, 9).out(0x57, 24).w(0x95C8).w(0x9144).board(FREE);
        b.burn(0, 0xA1A2A3A4, 0, 0, 0, 0);
        b.fuses(15);
        b.run(5);
        C.due("FUSE 0", b.data(0), 0xFE);
        b.run(1);
        C.due("then the word's byte", b.data(20), 0xA2);
        b = new Code().z(0).ldi(24, 9).out(0x57, 24).nops(3).w(0x9144).board(FREE);
        b.burn(0, 0xA1A2A3A4, 0, 0, 0, 0);
        b.run(8);
        C.due("behind the WINDOW", b.data(20), 0xA2);
    }

    /** All LOCKS as a byte; no WINDOW; instructions at 5FF and 600. */
    private static void bytesAtTheEdge() {
        for (int locks = 0; locks < 16; locks++) {
            FlashBoard b = new Code().z(1).ldi(24, 9).out(0x57, 24).w(0x9144).board(FREE);
            b.fuses(locks);
            b.run(5);
            C.due("LOCKS " + locks, b.data(20), 0xF0 + locks);
        }
        FlashBoard b = new Code().z(1).ldi(24, 8).out(0x57, 24).w(0x9144).board(FREE);
        b.burn(0, 0xA1A2A3A4, 0, 0, 0, 0);
        b.run(5);
        C.due("without a WINDOW the word's byte", b.data(20), 0xA1);
        C.due("and 57 stays", b.data(0x57), 8);
        for (int at = 0x5FF; at <= 0x600; at++) {
            b = new Code().w(0x9144).board(at);
            b.burn(0, 0xA1A2A3A4, 0, 0, 0, 0);
            b.fuses(0x15);
            b.put(30, 0);
            b.run(1);
            C.due("of the APPLICATION, at " + at, b.data(20), at < 0x600 ? 0xA2 : 0xFF);
            b.start(at);
            b.put(31, 0x0C);
            b.run(1);
            C.due("of the BOOT SECTION, at " + at, b.data(20), at < 0x600 ? 0xFF : b.word(0x600) & 255);
        }
    }

    private static void hiddenBytes() {
        for (int locks = 0; locks < 16; locks++) {
            for (int at : new int[] {FREE, 0x100}) {
                FlashBoard b = new Code().z(0x0BFF).w(0x9144).z(0x0C00).w(0x9154).z(0x1C01).w(0x9164).board(at);
                b.burn(0x5FF, 0xA1A2A3A4, 0, 0, 0, 0);
                b.fuses(0x10 | locks);
                b.run(9);
                boolean inBoot = at == FREE;
                C.due("of the APPLICATION, LOCKS " + locks, b.data(20), inBoot && (locks & 2) == 0 ? 0xFF : 0xA1);
                C.due("of the BOOT SECTION, LOCKS " + locks, b.data(21), !inBoot && (locks & 8) == 0 ? 0xFF : 0xA4);
                C.due("of a high Z", b.data(22), !inBoot && (locks & 8) == 0 ? 0xFF : 0xA3);
            }
        }
    }

    private static void others() {
        for (int command = 0; command < 16; command++) {
            if (command == 0 || command == 1 || command == 2 || command == 4 || command == 8) continue;
            FlashBoard b = filled(command * 2 + 1).board(FREE);
            b.burn(0x40, 0x0F0F0F0F, 0, 0, 0, 0);
            b.run(12);
            C.due("nothing by " + command, b.word(0x41), 0x0F0F);
            C.due("57", b.data(0x57), 0);
            C.due("BUFFER", b.about(8), 1);
            C.due("BUSY", b.about(7), 0);
            C.due("LOCKS", b.fuses(31), 31);
        }
    }
}
