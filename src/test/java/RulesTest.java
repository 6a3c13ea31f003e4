import java.io.PrintWriter;
import java.io.StringWriter;
import java.lang.reflect.Constructor;
import java.lang.reflect.Field;
import java.lang.reflect.Member;
import java.lang.reflect.Method;
import java.lang.reflect.Modifier;
import java.nio.file.Files;
import java.nio.file.Path;
import java.util.ArrayList;
import java.util.List;
import java.util.Map;
import java.util.Set;
import java.util.TreeMap;
import java.util.TreeSet;
import java.util.regex.Matcher;
import java.util.regex.Pattern;
import java.util.spi.ToolProvider;

/** What a machine can see of LANGUAGE.md's rules in src/main/java/FlashBoard.java; the rest is for a reader. */
public final class RulesTest {
    private static final Checks C = new Checks();
    private static final Set<String> FACE = Set.of("step()int", "run(int)int", "pass(int)int", "host(int)int", "sent()int",
        "got(int)int", "burn(int,int,int,int,int,int)int", "word(int)int", "data(int)int", "put(int,int)void", "eeprom(int)int",
        "pins(int)int", "fuses(int)int", "start(int)void", "reset()void", "power(boolean)boolean", "about(int)int");

    /** What the machine throws by itself, and the classes above that: no call is answered by catching these. */
    private static final String MACHINE = "(final )?(Throwable|Exception|RuntimeException|\\w*IndexOutOf\\w+|NullPointer\\w+|Arithmetic\\w+"
        + "|ClassCast\\w+|NegativeArray\\w+|ArrayStore\\w+)";

    public static void main(String[] args) throws Exception {
        String source = Files.readString(Path.of("src/main/java/FlashBoard.java"));
        face();
        inside();
        text(source);
        lengths(source);
        depth();
        C.end();
    }

    private static void holds(String what, boolean is) {
        C.due(what + " (1 yes, 0 no)", is ? 1 : 0, 1);
    }

    private static boolean isPrivate(Member m) {
        return Modifier.isPrivate(m.getModifiers());
    }

    private static String described(Method m) {
        List<String> types = new ArrayList<>();
        for (Class<?> type : m.getParameterTypes()) types.add(type.getName());
        return m.getName() + "(" + String.join(",", types) + ")" + m.getReturnType().getName();
    }

    private static void face() {
        Class<?> face = FlashBoard.class;
        holds("public and final", Modifier.isPublic(face.getModifiers()) && Modifier.isFinal(face.getModifiers()));
        Constructor<?>[] constructors = face.getDeclaredConstructors();
        holds("one public constructor", constructors.length == 1 && Modifier.isPublic(constructors[0].getModifiers())
            && constructors[0].getParameterCount() == 0);
        Set<String> seen = new TreeSet<>();
        for (Method m : face.getDeclaredMethods()) if (!isPrivate(m)) seen.add(described(m));
        holds("the face's methods: " + seen, seen.equals(new TreeSet<>(FACE)));
        for (Field f : face.getDeclaredFields()) holds(f + " is private", isPrivate(f) || f.getName().equals("NONE"));
    }

    private static void inside() {
        Set<String> names = new TreeSet<>();
        for (String method : FACE) names.add(method.substring(0, method.indexOf('(')));
        Class<?>[] classes = FlashBoard.class.getDeclaredClasses();
        holds("some twelve classes", classes.length <= 11);
        List<Class<?>> all = new ArrayList<>(List.of(classes));
        all.add(FlashBoard.class);
        for (Class<?> c : all) {
            boolean isFace = c == FlashBoard.class;
            holds(c + " is static", isFace || Modifier.isStatic(c.getModifiers()));
            holds(c + " is hidden", isFace || !Modifier.isPublic(c.getModifiers()) && !Modifier.isProtected(c.getModifiers()));
            int fields = 0;
            for (Field f : c.getDeclaredFields()) {
                boolean isStatic = Modifier.isStatic(f.getModifiers());
                if (!isStatic) fields++;
                holds(f + " is final or no static", !isStatic || Modifier.isFinal(f.getModifiers()));
            }
            holds(c + " has some twenty fields", fields <= 20);
            for (Method m : c.getDeclaredMethods()) {
                holds(m + " has at most seven parameters", m.getParameterCount() <= 7);
                holds(m + " bears no public one's name", isFace && !isPrivate(m) || !names.contains(m.getName()));
            }
        }
    }

    private static void text(String source) {
        boolean ascii = true;
        for (char c : source.toCharArray()) ascii &= c == '\n' || c >= 32 && c < 127;
        holds("plain signs", ascii);
        String code = source.replaceAll("(?s)/\\*.*?\\*/", "").replaceAll("//[^\n]*", "").replaceAll("\"[^\"]*\"", "\"\"");
        String[] banned = {"->", "::", "\\bassert\\b", "\\bsynchronized\\b", "\\bfinally\\b",
            "\\bpackage\\b", "\\bprotected\\b", "static \\{", "\\bThread\\b", "Exact\\(", "System\\.(?!arraycopy)",
            "Arrays\\.(?!fill|copyOf)", "\\bjava\\.(?!util\\.(Arrays|ArrayList|List|Iterator|NoSuchElementException);)",
            "\\bpublic static (?!final int NONE)", "(equals|hashCode|toString)\\(.*\\) \\{", "catch \\(" + MACHINE};
        for (String b : banned) {
            Matcher m = Pattern.compile(b).matcher(code);
            holds("no " + b, !m.find());
        }
        Matcher thrown = Pattern.compile("throw [^;]*;").matcher(code);
        while (thrown.find()) {
            holds(thrown.group(), thrown.group().matches("throw new (IllegalArgument|IndexOutOfBounds|NoSuchElement)Exception\\(\"\"\\);"));
        }
    }

    /** Methods and constructors of some sixty lines at most, none of which stand within another. */
    private static void lengths(String source) {
        String[] lines = source.split("\n");
        for (int i = 0; i < lines.length; i++) {
            if (!lines[i].matches("( {4}| {8})[\\w\\[\\] ]+\\(.*\\).* \\{") || lines[i].contains(" class ")) continue;
            String end = lines[i].substring(0, lines[i].indexOf(lines[i].trim())) + "}";
            int last = i;
            while (last < lines.length - 1 && !lines[last].equals(end)) last++;
            holds(lines[i].trim() + " is short: " + (last - i + 1), last - i + 1 <= 60);
        }
    }

    private static void depth() throws Exception {
        Path folder = Path.of(FlashBoard.class.getProtectionDomain().getCodeSource().getLocation().toURI());
        List<String> words = new ArrayList<>(List.of("-c", "-p"));
        words.add(folder.resolve("FlashBoard.class").toString());
        for (Class<?> c : FlashBoard.class.getDeclaredClasses()) words.add(folder.resolve(c.getName() + ".class").toString());
        StringWriter out = new StringWriter();
        ToolProvider javap = ToolProvider.findFirst("javap").orElseThrow();
        javap.run(new PrintWriter(out), new PrintWriter(out), words.toArray(new String[0]));
        Map<String, Set<String>> calls = new TreeMap<>();
        String inClass = "";
        String inMethod = "";
        for (String line : out.toString().split("\n")) {
            Matcher c = Pattern.compile("^[a-z ]*class ([\\w$]+).*\\{").matcher(line);
            Matcher m = Pattern.compile("^  [^ ].*?([\\w$]+)\\(.*;$").matcher(line);
            Matcher call = Pattern.compile("invoke\\w+ .*// Method (?:([\\w$/]+)\\.)?(\"<init>\"|[\\w$]+):").matcher(line);
            if (c.find()) {
                inClass = c.group(1);
            } else if (m.find()) {
                inMethod = inClass + "." + m.group(1);
                calls.putIfAbsent(inMethod, new TreeSet<>());
            } else if (call.find()) {
                String of = call.group(1) == null ? inClass : call.group(1);
                String name = call.group(2).startsWith("\"") ? of : call.group(2);
                if (!of.equals("java/lang/Object")) calls.get(inMethod).add(of + "." + name);
            }
        }
        holds("calls are seen", calls.size() > 100);
        for (String method : calls.keySet()) {
            int deep = depthOf(method, calls, 0);
            holds(method + " goes at most eight deep: " + deep, deep <= 8);
        }
    }

    private static int depthOf(String method, Map<String, Set<String>> calls, int above) {
        if (above > 20) return 1000;
        int deepest = 0;
        for (String called : calls.getOrDefault(method, Set.of())) {
            deepest = Math.max(deepest, depthOf(called, calls, above + 1));
        }
        return deepest + 1;
    }
}
