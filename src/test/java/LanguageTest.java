import java.io.IOException;
import java.lang.reflect.Constructor;
import java.lang.reflect.Field;
import java.lang.reflect.Method;
import java.lang.reflect.Modifier;
import java.nio.charset.StandardCharsets;
import java.nio.file.Files;
import java.nio.file.Path;
import java.util.Arrays;
import java.util.Set;
import java.util.TreeSet;
import java.util.regex.Matcher;
import java.util.regex.Pattern;

/** The face of the class, and those rules of ../shared/LANGUAGE.md that a program can look at. */
public final class LanguageTest {
    private static final Path SOURCE = Path.of("src/main/java/DeadTimeLoop.java");

    private static final String[] FACE = {
        "int ahead(int,int)", "int apply()", "int assigned()", "int assignedAt(int)",
        "int bestGain(int)", "int clearText()", "int estimatedLag()", "int extreme(int,int)",
        "int fault()", "int idealDifference(int)", "int nameAt(int,int)", "int parameter(int)",
        "int recall()", "int recorded(int,int)", "int restart()", "int run(int)",
        "int setLoad(int)", "int setParameter(int,int)", "int setSeed(int)",
        "int setSetpoint(int)", "int settledTicks(int)", "int store()", "int time()",
        "int tuneDelay()", "int type(int)", "int undo()", "int unwatch(int)", "int value(int)",
        "int watch(int)", "int watchedAt(int)", "long correlation(int)", "long measure(int)"
    };
    private static final String[] FORBIDDEN = {
        "throw", "throws", "try", "catch", "finally", "synchronized", "assert", "double", "float",
        "import", "package", "native", "volatile", "transient", "this", "super", "Object", "System",
        "Exact"
    };

    private LanguageTest() {
    }

    public static void main(String[] args) throws IOException {
        face();
        constants();
        insideClasses();
        String source = Files.readString(SOURCE, StandardCharsets.ISO_8859_1);
        words(source);
        methodLengths(source);
        Check.end();
    }

    private static boolean isShown(int modifiers) {
        return !Modifier.isPrivate(modifiers);
    }

    private static void face() {
        int modifiers = DeadTimeLoop.class.getModifiers();
        Check.holds("public and final", Modifier.isPublic(modifiers) && Modifier.isFinal(modifiers));
        Set<String> shown = new TreeSet<>();
        for (Method method : DeadTimeLoop.class.getDeclaredMethods()) {
            if (isShown(method.getModifiers())) {
                boolean plain = method.getModifiers() == Modifier.PUBLIC;
                Check.holds(method + " is public and no more", plain);
                String text = method.toString();
                shown.add(method.getReturnType() + " " + text.substring(text.indexOf('.') + 1));
            }
        }
        Set<String> due = new TreeSet<>(Arrays.asList(FACE));
        Check.holds("the methods " + shown, shown.equals(due));
        Constructor<?>[] constructors = DeadTimeLoop.class.getDeclaredConstructors();
        Check.due("constructors", constructors.length, 1);
        Check.due("their modifiers", constructors[0].getModifiers(), Modifier.PUBLIC);
        Check.due("their parameters", constructors[0].getParameterCount(), 0);
    }

    private static void constants() {
        Set<String> shown = new TreeSet<>();
        for (Field field : DeadTimeLoop.class.getDeclaredFields()) {
            int modifiers = field.getModifiers();
            if (isShown(modifiers)) {
                Check.holds(field + " is a constant", Modifier.isPublic(modifiers)
                    && Modifier.isStatic(modifiers) && Modifier.isFinal(modifiers)
                    && field.getType() == int.class);
                shown.add(field.getName());
            }
        }
        Check.holds("the constants " + shown, shown.equals(Set.of("INVALID_ARGUMENT",
            "NOT_POSSIBLE", "CAPACITY_EXCEEDED", "NOT_FOUND")));
        Check.due("INVALID_ARGUMENT", DeadTimeLoop.INVALID_ARGUMENT, -2000000001);
        Check.due("NOT_POSSIBLE", DeadTimeLoop.NOT_POSSIBLE, -2000000002);
        Check.due("CAPACITY_EXCEEDED", DeadTimeLoop.CAPACITY_EXCEEDED, -2000000003);
        Check.due("NOT_FOUND", DeadTimeLoop.NOT_FOUND, -2000000004);
    }

    private static void insideClasses() {
        Set<String> names = new TreeSet<>();
        for (String method : FACE) {
            names.add(method.substring(method.indexOf(' ') + 1, method.indexOf('(')));
        }
        staticsOf(DeadTimeLoop.class);
        namesOf(DeadTimeLoop.class, names);
        Class<?>[] inside = DeadTimeLoop.class.getDeclaredClasses();
        Check.holds("at most twelve classes", inside.length + 1 <= 12);
        for (Class<?> one : inside) {
            Check.holds(one + " is static", Modifier.isStatic(one.getModifiers()));
            Check.holds(one + " is hidden", !Modifier.isPublic(one.getModifiers())
                && !Modifier.isProtected(one.getModifiers()));
            staticsOf(one);
            namesOf(one, names);
        }
    }

    private static void staticsOf(Class<?> one) {
        int fields = 0;
        for (Field field : one.getDeclaredFields()) {
            if (!Modifier.isStatic(field.getModifiers())) {
                fields++;
            } else {
                Check.holds(field + " is final", Modifier.isFinal(field.getModifiers()));
                Check.holds(field + " is of a constant's type", Set.of(int.class, long.class,
                    boolean.class, char.class, String.class, int[].class, long[].class,
                    char[].class, byte[].class).contains(field.getType()));
            }
        }
        Check.holds(one + " has at most twenty fields", fields <= 20);
    }

    private static void namesOf(Class<?> one, Set<String> names) {
        for (Method method : one.getDeclaredMethods()) {
            Check.holds(method + " has at most seven parameters", method.getParameterCount() <= 7);
            boolean ofTheFace = one == DeadTimeLoop.class && isShown(method.getModifiers());
            Check.holds(method + " has a name of its own",
                ofTheFace || !names.contains(method.getName()));
        }
    }

    private static String withoutComments(String source) {
        return source.replaceAll("(?s)/\\*.*?\\*/", " ").replaceAll("//[^\n]*", " ");
    }

    private static void words(String source) {
        for (int n = 0; n < source.length(); n++) {
            Check.holds("sign " + (int) source.charAt(n), source.charAt(n) <= 126);
        }
        String code = withoutComments(source).replace("System.arraycopy(", "arraycopy(");
        for (String word : FORBIDDEN) {
            Check.holds("no " + word, !Pattern.compile("\\b" + word + "\\b").matcher(code).find());
        }
        Check.holds("no Exact functions", !code.contains("Exact("));
        Check.holds("no lambda", !code.contains("->"));
        Check.holds("no method reference", !code.contains("::"));
        Check.holds("no joining by +", !code.contains("\" +") && !code.contains("+ \""));
    }

    private static void methodLengths(String source) {
        Pattern head = Pattern.compile("^( {4}| {8})(?!return|else)[a-zA-Z][^;=]*\\) \\{$");
        String end = null;
        String name = "";
        int lines = 0;
        for (String line : source.split("\n")) {
            Matcher matcher = head.matcher(line);
            if (end == null && matcher.matches()) {
                end = matcher.group(1) + "}";
                name = line.trim();
                lines = 0;
            }
            lines++;
            if (line.equals(end)) {
                Check.holds(name + " has " + lines + " lines", lines <= 60);
                end = null;
            }
        }
    }
}
