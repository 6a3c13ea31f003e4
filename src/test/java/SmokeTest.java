/** A new object answers as told at first. */
public final class SmokeTest {
    public static void main(String[] args) {
        Checks checks = new Checks();
        FlashBoard board = new FlashBoard();
        checks.due("PC", board.about(0), 0x600);
        checks.due("C0", board.data(0xC0), 0x20);
        checks.end();
    }
}
