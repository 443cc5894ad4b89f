import java.io.IOException;
import java.lang.reflect.Constructor;
import java.lang.reflect.Field;
import java.lang.reflect.Method;
import java.lang.reflect.Modifier;
import java.nio.charset.StandardCharsets;
import java.nio.file.Files;
import java.nio.file.Path;
import java.util.Arrays;
import java.util.Set;
import java.util.TreeSet;
import java.util.stream.Collectors;

/** The public face, to the letter, and what LANGUAGE.md rules out and a simple look can find. */
final class FaceTest {
    private static final String IA = "IllegalArgumentException";
    private static final String IO = "IndexOutOfBoundsException";
    private static final String IS = "IllegalStateException";
    private static final String UO = "UnsupportedOperationException";
    private static final String AR = "ArithmeticException";
    private static final String[] FACE = {
        "int addRoom(int) " + IA + " " + IS,
        "int addHatch(int, int) " + IO + " " + IA + " " + IS,
        "boolean setHatch(int, boolean) " + IO,
        "int setLeak(int, int) " + IO + " " + IA,
        "int addDevice(char, int) " + IA + " " + IO + " " + IS,
        "boolean setDevice(int, boolean) " + IO + " " + UO,
        "int setPanels(int) " + IA,
        "int board(int) " + IO + " " + IS,
        "int move(int, int) " + IO + " " + IS + " " + UO,
        "char setTask(int, char) " + IO + " " + IA + " " + IS + " " + UO,
        "int send(char, int, int, int) " + IA + " " + IO + " " + IS + " " + UO,
        "int approach(int, int) " + IA + " " + IS,
        "int burn(int, int) " + IO + " " + IA + " " + IS + " " + UO,
        "int pass(int) " + IA + " " + AR,
        "boolean endSafe()",
        "int oxygen(int) " + IO,
        "int carbon(int) " + IO,
        "int water()",
        "int battery()",
        "int whereIs(int) " + IO,
        "int distance(int) " + IO,
        "boolean isOn(int) " + IO,
        "boolean isSafe()",
        "int events()",
        "char eventAt(int) " + IO,
        "int timeLeft()",
        "int worst()",
        "long checksum()",
        "float aliveShare() " + AR,
        "double meanOxygen() " + AR,
        "boolean isSound()",
    };
    private static final String[] RULED_OUT = {"->", "::", "import ", "package ", "synchronized", "finally",
        "assert ", "catch", "instanceof", "Exact(", "equals(", "hashCode", "toString", "Math.random", "System.",
        "protected ", "@", "null"};

    static void classIsPublicAndFinalWithoutPackage() {
        Expect.same("modifiers", Modifier.PUBLIC | Modifier.FINAL, Orbitdock.class.getModifiers());
        Expect.same("package", "", Orbitdock.class.getPackageName());
    }

    static void methodsAreTheDocuments() {
        Set<String> found = new TreeSet<>();
        Set<String> publicNames = new TreeSet<>();
        for (Method method : Orbitdock.class.getDeclaredMethods()) {
            if (!Modifier.isPrivate(method.getModifiers())) {
                found.add(signatureOf(method));
                publicNames.add(method.getName());
                Expect.same("modifiers of " + method.getName(), Modifier.PUBLIC, method.getModifiers());
            }
        }
        Expect.same("face", new TreeSet<>(Arrays.asList(FACE)), found);
        for (Method method : Orbitdock.class.getDeclaredMethods()) {
            Expect.same("a private one named " + method.getName(), false,
                    Modifier.isPrivate(method.getModifiers()) && publicNames.contains(method.getName()));
        }
    }

    private static String signatureOf(Method method) {
        String parameters = Arrays.stream(method.getParameterTypes()).map(Class::getSimpleName)
                .collect(Collectors.joining(", "));
        String thrown = Arrays.stream(method.getExceptionTypes()).map(Class::getSimpleName)
                .collect(Collectors.joining(" "));
        return (method.getReturnType().getSimpleName() + " " + method.getName() + "(" + parameters + ") " + thrown)
                .trim();
    }

    static void nothingElseShows() {
        Constructor<?>[] constructors = Orbitdock.class.getDeclaredConstructors();
        Expect.same("constructors", 1, constructors.length);
        Expect.same("its modifiers", Modifier.PUBLIC, constructors[0].getModifiers());
        Expect.same("its parameters", 0, constructors[0].getParameterCount());
        for (Field field : Orbitdock.class.getDeclaredFields()) {
            Expect.same("private " + field.getName(), true, Modifier.isPrivate(field.getModifiers()));
        }
    }

    static void classesInsideKeepTheRules() {
        Class<?>[] inside = Orbitdock.class.getDeclaredClasses();
        Expect.same("some twelve classes", true, inside.length < 12);
        for (Class<?> one : inside) {
            int modifiers = one.getModifiers();
            Expect.same("static " + one, true, Modifier.isStatic(modifiers));
            Expect.same("public " + one, false, Modifier.isPublic(modifiers) || Modifier.isProtected(modifiers));
            fieldsKeepTheRules(one);
        }
        fieldsKeepTheRules(Orbitdock.class);
    }

    private static void fieldsKeepTheRules(Class<?> one) {
        int own = 0;
        for (Field field : one.getDeclaredFields()) {
            boolean isStatic = Modifier.isStatic(field.getModifiers());
            own += isStatic ? 0 : 1;
            Expect.same("final " + field, true, !isStatic || Modifier.isFinal(field.getModifiers()));
        }
        Expect.same("some twenty fields of " + one, true, own <= 20);
    }

    static void sourceHasNothingThatIsRuledOut() throws IOException {
        String source = Files.readString(Path.of("src/main/java/Orbitdock.java"), StandardCharsets.UTF_8);
        for (String text : RULED_OUT) {
            Expect.same("the place of " + text, -1, source.indexOf(text));
        }
        Expect.same("signs above 127", 0L, source.chars().filter(c -> c > 127).count());
        Expect.same("joining texts by +", false, source.contains("\" +") || source.contains("+ \""));
    }
}
