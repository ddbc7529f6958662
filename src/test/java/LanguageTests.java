import java.io.IOException;
import java.lang.management.ManagementFactory;
import java.lang.reflect.Field;
import java.lang.reflect.Method;
import java.lang.reflect.Modifier;
import java.nio.file.Files;
import java.nio.file.Path;
import java.util.regex.Matcher;
import java.util.regex.Pattern;

/** What can be seen of ../shared/LANGUAGE.md from outside: words of the source, and the room. */
public final class LanguageTests {
    private static final Path SOURCE = Path.of("src/main/java/TunnelControlDesk.java");
    private static final String[] FORBIDDEN = {
        "\\bcatch\\b", "\\bfinally\\b", "\\bassert\\b", "\\bsynchronized\\b", "->", "::", "\\bimport\\b", "\\bpackage\\b",
        "\\bgetMessage\\b", "\\bfor \\(;;", "\\bwhile \\(true", "\\bException e\\b", "Exact\\(", "\\bSystem\\.(?!arraycopy)",
        "\\binstanceof\\b", "\\bprotected\\b", "@", "\" \\+", "\\+ \""
    };

    private static final Check check = new Check("LanguageTests");

    public static void main(String[] args) throws IOException {
        words();
        classes();
        methodLengths();
        room();
        check.finish();
    }

    private static void words() throws IOException {
        String source = Files.readString(SOURCE);
        for (String word : FORBIDDEN) {
            Matcher found = Pattern.compile(word).matcher(source);
            check.no("the source has " + word, found.find());
        }
        Matcher thrown = Pattern.compile("throw (?!new (IllegalArgument|IllegalState|IndexOutOfBounds)Exception\\(\"[^\"]*\"\\);)")
                .matcher(source);
        check.no("another throw", thrown.find());
        check.same("signs beyond 127", source.chars().filter(sign -> sign > 127).count(), 0);
    }

    /** Rules 1, 2, 5 and 11. */
    private static void classes() {
        Class<?>[] inside = TunnelControlDesk.class.getDeclaredClasses();
        check.yes("at most twelve classes", inside.length < 12);
        sizes(TunnelControlDesk.class);
        for (Class<?> one : inside) {
            check.yes(one + " is static", Modifier.isStatic(one.getModifiers()));
            check.no(one + " is public or protected", (one.getModifiers() & (Modifier.PUBLIC | Modifier.PROTECTED)) != 0);
            check.same("classes inside " + one, one.getDeclaredClasses().length, 0);
            sizes(one);
        }
    }

    private static void sizes(Class<?> one) {
        int fields = 0;
        for (Field field : one.getDeclaredFields()) {
            boolean isStatic = Modifier.isStatic(field.getModifiers());
            fields += isStatic ? 0 : 1;
            check.yes(field + " is final if static", !isStatic || Modifier.isFinal(field.getModifiers()));
        }
        check.yes("at most twenty fields in " + one, fields <= 20);
        for (Method method : one.getDeclaredMethods()) {
            check.yes("at most seven parameters of " + method, method.getParameterCount() <= 7);
            check.no(method + " bears the name of a public one",
                    !Modifier.isPublic(method.getModifiers()) && isFaceName(method.getName()));
        }
    }

    private static boolean isFaceName(String name) {
        for (Method method : TunnelControlDesk.class.getDeclaredMethods()) {
            if (Modifier.isPublic(method.getModifiers()) && method.getName().equals(name)) {
                return true;
            }
        }
        return false;
    }

    /** Rule 11: a body begins with a line that ends in ") {" at a member's depth, and ends with its brace there. */
    private static void methodLengths() throws IOException {
        int start = -1;
        String end = "";
        int bodies = 0;
        int line = 0;
        for (String text : Files.readAllLines(SOURCE)) {
            line++;
            String depth = text.startsWith("        ") ? "        " : "    ";
            boolean begins = text.matches(depth + "(?!if|for|while|switch|throws)\\w.*\\(.*") && !text.endsWith(";");
            if (start < 0 && begins) {
                start = line;
                end = depth + "}";
            } else if (start >= 0 && text.equals(end)) {
                check.yes("some sixty lines from line " + start, line - start < 60);
                start = -1;
                bodies++;
            }
        }
        check.yes("bodies were found", bodies > 90);
    }

    /** All calls of a run share one room, so that only a new object and a load may take some. */
    private static void room() {
        String text = "tunnel 12 2;bay 1;bay 3;bay 4;bay 7;bay 8;bay 9;fan 1 1;fan 3 4;fire 6;rate clock*3+cars;"
                + "car 0 east;car 3 east;car 5 east;car 5 east;car 8 west;car 11 west;red 2 west;vent 4 9;";
        TunnelControlDesk warm = Check.desk(text);
        calls(warm, 10);
        long start = taken();
        TunnelControlDesk desk = new TunnelControlDesk();
        check.yes("a new object takes little room", taken() - start < 40000);
        Check.load(desk, text);
        start = taken();
        calls(desk, 20);
        check.yes("calls take no room", taken() - start < 10000);
        Check.append(desk, text);
        start = taken();
        desk.load(text.length());
        check.yes("a load takes little room", taken() - start < 2000);
    }

    private static void calls(TunnelControlDesk desk, int times) {
        for (int i = 0; i < times; i++) {
            desk.setFire(5);
            desk.setFan(1, i % 10);
            desk.setSignal(2, -1, false);
            desk.setBay(1, i % 2 == 0);
            desk.run(1 + i % 3);
            desk.bestBays();
            desk.bestBayTime();
            desk.bestSetting(60);
            desk.exposureWith(3, 60);
            desk.clearingTime(200);
            desk.checksum();
            desk.rate();
            desk.undo();
        }
    }

    private static long taken() {
        return ((com.sun.management.ThreadMXBean) ManagementFactory.getThreadMXBean()).getCurrentThreadAllocatedBytes();
    }
}
