import java.lang.reflect.Method;
import java.lang.reflect.Modifier;
import java.nio.file.Files;
import java.nio.file.Path;

/** README.md: its example's calls, in their order, with the answers that its comments tell; and that no call is left out. */
public final class ReadmeTest {
    private static final Checks C = new Checks();

    public static void main(String[] args) throws Exception {
        String readme = Files.readString(Path.of("README.md"));
        example(readme);
        for (Method m : FlashBoard.class.getDeclaredMethods()) {
            if (!Modifier.isPublic(m.getModifiers())) continue;
            holds(m.getName() + " is told", readme.contains("`" + m.getName() + "("));
            for (Class<?> refusal : m.getExceptionTypes()) {
                holds(m.getName() + " throws " + refusal, lineOf(readme, m.getName()).contains(refusal.getSimpleName()));
            }
        }
        C.end();
    }

    private static void holds(String what, boolean is) {
        C.due(what + " (1 yes, 0 no)", is ? 1 : 0, 1);
    }

    private static String lineOf(String readme, String call) {
        for (String line : readme.split("\n")) if (line.startsWith("| ") && line.contains("`" + call + "(")) return line;
        return "";
    }

    private static void example(String readme) {
        FlashBoard board = new FlashBoard();
        board.host(0x30);
        board.host(0x20);
        board.pass(2000);
        told(readme, "board.sent();", board.sent(), "2 bytes have come");
        told(readme, "board.got(0);", board.got(0), "0x14");
        told(readme, "board.got(1);", board.got(1), "0x10");
        board.burn(0, 0xE0019588, -1, -1, -1, -1);
        board.start(0);
        board.run(2);
        told(readme, "board.data(16);", board.data(16), "1");
        told(readme, "board.about(2);", board.about(2), "1: it sleeps");
        for (String line : new String[] {"board.host(0x30);", "board.host(0x20);", "board.pass(2000);",
            "board.burn(0, 0xE0019588, -1, -1, -1, -1);", "board.start(0);", "board.run(2);"}) {
            holds("the example has " + line, readme.contains(line));
        }
    }

    /** The README's line of a call has a comment that begins so, and the number at its beginning is the call's answer. */
    private static void told(String readme, String call, int answer, String comment) {
        boolean stands = false;
        for (String line : readme.split("\n")) stands |= line.startsWith(call) && line.contains("// " + comment);
        holds("the example has " + call + " // " + comment, stands);
        C.due(call, answer, Integer.decode(comment.split("[ :]")[0]));
    }
}
