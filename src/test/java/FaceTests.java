import java.lang.reflect.Member;
import java.lang.reflect.Method;
import java.lang.reflect.Modifier;
import java.util.Arrays;
import java.util.Set;
import java.util.TreeSet;

/** The class shows the document's face and nothing else. */
public final class FaceTests {
    private static final String[] METHODS = {
        "int append(int, int, int, int, int)",
        "int load(int) IllegalArgumentException",
        "int errorOffset()",
        "int sectionCount()",
        "int carCount()",
        "int clock()",
        "int flow()",
        "int rate()",
        "int fireSection()",
        "int smoke(int) IndexOutOfBoundsException",
        "long total(int) IllegalArgumentException",
        "int fan(int) IndexOutOfBoundsException IllegalStateException",
        "int bay(int) IndexOutOfBoundsException",
        "boolean isRed(int, int) IndexOutOfBoundsException IllegalArgumentException",
        "int carSection(int) IndexOutOfBoundsException",
        "int carDirection(int) IndexOutOfBoundsException",
        "long exposure(int) IndexOutOfBoundsException",
        "int carsIn(int, int) IndexOutOfBoundsException IllegalArgumentException",
        "int inside()",
        "int clearingTime(int) IllegalArgumentException",
        "int bestBays()",
        "int bestBayTime()",
        "long exposureWith(int, int) IllegalArgumentException",
        "int bestSetting(int) IllegalArgumentException",
        "int run(int) IllegalArgumentException IllegalStateException",
        "int setFan(int, int) IndexOutOfBoundsException IllegalArgumentException IllegalStateException",
        "int setFire(int) IndexOutOfBoundsException",
        "boolean setSignal(int, int, boolean) IndexOutOfBoundsException IllegalArgumentException",
        "boolean setBay(int, boolean) IndexOutOfBoundsException IllegalStateException",
        "int undo()",
        "long checksum()",
    };

    private static final Check check = new Check("FaceTests");

    public static void main(String[] args) {
        constants();
        methods();
        check.same("modifiers of the class", TunnelControlDesk.class.getModifiers(),
                Modifier.PUBLIC | Modifier.FINAL);
        check.same("constructors", TunnelControlDesk.class.getDeclaredConstructors().length, 1);
        check.yes("public constructor",
                Modifier.isPublic(TunnelControlDesk.class.getDeclaredConstructors()[0].getModifiers()));
        check.finish();
    }

    private static void constants() {
        check.same("SYNTAX_ERROR", TunnelControlDesk.SYNTAX_ERROR, -2);
        check.same("OUT_OF_RANGE", TunnelControlDesk.OUT_OF_RANGE, -3);
        check.same("TOO_MANY", TunnelControlDesk.TOO_MANY, -4);
        check.same("TOO_DEEP", TunnelControlDesk.TOO_DEEP, -5);
        Set<String> names = new TreeSet<>();
        for (Member field : TunnelControlDesk.class.getDeclaredFields()) {
            if (!Modifier.isPrivate(field.getModifiers())) {
                names.add(field.getName());
            }
        }
        check.yes("constants " + names,
                names.equals(Set.of("SYNTAX_ERROR", "OUT_OF_RANGE", "TOO_MANY", "TOO_DEEP")));
    }

    private static void methods() {
        Set<String> due = new TreeSet<>(Arrays.asList(METHODS));
        Set<String> got = new TreeSet<>();
        for (Method method : TunnelControlDesk.class.getDeclaredMethods()) {
            if (Modifier.isPrivate(method.getModifiers())) {
                continue;
            }
            check.same("modifiers of " + method.getName(), method.getModifiers(), Modifier.PUBLIC);
            got.add(signature(method));
        }
        for (String signature : due) {
            check.yes("the face has " + signature, got.contains(signature));
        }
        for (String signature : got) {
            check.yes("the face is to have " + signature, due.contains(signature));
        }
    }

    private static String signature(Method method) {
        StringBuilder text = new StringBuilder();
        text.append(method.getReturnType().getName()).append(' ').append(method.getName()).append('(');
        for (int i = 0; i < method.getParameterCount(); i++) {
            text.append(i == 0 ? "" : ", ").append(method.getParameterTypes()[i].getName());
        }
        text.append(')');
        for (Class<?> kind : method.getExceptionTypes()) {
            text.append(' ').append(kind.getSimpleName());
        }
        return text.toString();
    }
}
