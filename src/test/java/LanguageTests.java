import java.io.IOException;
import java.lang.management.ManagementFactory;
import java.nio.file.Files;
import java.nio.file.Path;
import java.util.regex.Matcher;
import java.util.regex.Pattern;

/** What can be seen of ../shared/LANGUAGE.md from outside: words of the source, and the room. */
public final class LanguageTests {
    private static final Path SOURCE = Path.of("src/main/java/TunnelControlDesk.java");
    private static final String[] FORBIDDEN = {
        "\\bcatch\\b", "\\bfinally\\b", "\\bassert\\b", "\\bsynchronized\\b", "->", "::", "\\bimport\\b", "\\bpackage\\b",
        "\\bgetMessage\\b", "\\bfor \\(;;", "\\bwhile \\(true", "\\bException e\\b", "Exact\\(", "\\bSystem\\.(?!arraycopy)",
        "\\binstanceof\\b", "\\bprotected\\b", "@", "\" \\+", "\\+ \""
    };

    private static final Check check = new Check("LanguageTests");

    public static void main(String[] args) throws IOException {
        words();
        room();
        check.finish();
    }

    private static void words() throws IOException {
        String source = Files.readString(SOURCE);
        for (String word : FORBIDDEN) {
            Matcher found = Pattern.compile(word).matcher(source);
            check.no("the source has " + word, found.find());
        }
        Matcher thrown = Pattern.compile("throw (?!new (IllegalArgument|IllegalState|IndexOutOfBounds)Exception\\(\"[^\"]*\"\\);)")
                .matcher(source);
        check.no("another throw", thrown.find());
        check.same("signs beyond 127", source.chars().filter(sign -> sign > 127).count(), 0);
    }

    /** All calls of a run share one room, so that only a new object and a load may take some. */
    private static void room() {
        String text = "tunnel 12 2;bay 1;bay 3;bay 4;bay 7;bay 8;bay 9;fan 1 1;fan 3 4;fire 6;rate clock*3+cars;"
                + "car 0 east;car 3 east;car 5 east;car 5 east;car 8 west;car 11 west;red 2 west;vent 4 9;";
        TunnelControlDesk warm = Check.desk(text);
        calls(warm, 10);
        long start = taken();
        TunnelControlDesk desk = new TunnelControlDesk();
        check.yes("a new object takes little room", taken() - start < 40000);
        Check.load(desk, text);
        start = taken();
        calls(desk, 20);
        check.yes("calls take no room", taken() - start < 10000);
        Check.append(desk, text);
        start = taken();
        desk.load(text.length());
        check.yes("a load takes little room", taken() - start < 2000);
    }

    private static void calls(TunnelControlDesk desk, int times) {
        for (int i = 0; i < times; i++) {
            desk.setFire(5);
            desk.setFan(1, i % 10);
            desk.setSignal(2, -1, false);
            desk.setBay(1, i % 2 == 0);
            desk.run(1 + i % 3);
            desk.bestBays();
            desk.bestBayTime();
            desk.bestSetting(60);
            desk.exposureWith(3, 60);
            desk.clearingTime(200);
            desk.checksum();
            desk.rate();
            desk.undo();
        }
    }

    private static long taken() {
        return ((com.sun.management.ThreadMXBean) ManagementFactory.getThreadMXBean()).getCurrentThreadAllocatedBytes();
    }
}
