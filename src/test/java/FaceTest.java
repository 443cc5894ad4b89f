import java.io.IOException;
import java.lang.reflect.Constructor;
import java.lang.reflect.Field;
import java.lang.reflect.Method;
import java.lang.reflect.Modifier;
import java.nio.charset.StandardCharsets;
import java.nio.file.Files;
import java.nio.file.Path;
import java.util.ArrayList;
import java.util.Arrays;
import java.util.List;
import java.util.Set;
import java.util.TreeSet;
import java.util.regex.Matcher;
import java.util.regex.Pattern;
import java.util.stream.Collectors;

/** The public face, to the letter, and what LANGUAGE.md rules out and a simple look can find. */
final class FaceTest {
    private static final Pattern METHOD = Pattern.compile(
            "\\n    public ([a-z]+ \\w+\\([^)]*\\)(?:\\s+throws [\\w,\\s]+\\w)?)\\s*[;{]");
    private static final Pattern AHEAD = Pattern.compile("Ahead of the calls (.*) the interface says: (.*)");
    private static final String[] RULED_OUT = {"->", "::", "import ", "package ", "synchronized", "finally",
        "assert ", "catch", "instanceof", "Exact(", "equals(", "hashCode", "toString", "Math.random", "System.",
        "protected ", "@", "null"};

    static void classIsPublicAndFinalWithoutPackage() {
        Expect.same("modifiers", Modifier.PUBLIC | Modifier.FINAL, Orbitdock.class.getModifiers());
        Expect.same("package", "", Orbitdock.class.getPackageName());
    }

    static void methodsAreTheDocuments() throws IOException {
        Set<String> found = new TreeSet<>();
        Set<String> publicNames = new TreeSet<>();
        for (Method method : Orbitdock.class.getDeclaredMethods()) {
            if (!Modifier.isPrivate(method.getModifiers())) {
                found.add(declarationOf(method));
                publicNames.add(method.getName());
                Expect.same("modifiers of " + method.getName(), Modifier.PUBLIC, method.getModifiers());
            }
        }
        Set<String> face = new TreeSet<>();
        for (String declaration : declarationsIn(documentsFace())) {
            face.add(withoutParameterNames(declaration));
        }
        Expect.same("face", face, found);
        Expect.same("methods", 31, found.size());
        for (Method method : Orbitdock.class.getDeclaredMethods()) {
            Expect.same("a private one named " + method.getName(), false,
                    Modifier.isPrivate(method.getModifiers()) && publicNames.contains(method.getName()));
        }
    }

    static void declarationsAreTheDocumentsToTheLetter() throws IOException {
        Expect.same("declarations", declarationsIn(documentsFace()), declarationsIn(source()));
    }

    private static String documentsFace() throws IOException {
        String document = read("../shared/DOC.md");
        int from = document.indexOf("```java");
        return document.substring(from, document.indexOf("```", from + 1));
    }

    private static String source() throws IOException {
        return read("src/main/java/Orbitdock.java");
    }

    private static String read(String path) throws IOException {
        return Files.readString(Path.of(path), StandardCharsets.UTF_8);
    }

    // The public methods of a text in their order, each as it is declared there, in one line.
    private static List<String> declarationsIn(String text) {
        List<String> declarations = new ArrayList<>();
        Matcher method = METHOD.matcher(text);
        while (method.find()) {
            declarations.add(method.group(1).replaceAll("\\s+", " "));
        }
        return declarations;
    }

    private static String withoutParameterNames(String declaration) {
        int end = declaration.indexOf(')') + 1;
        return declaration.substring(0, end).replaceAll("(\\w+) \\w+(?=[,)])", "$1") + declaration.substring(end);
    }

    private static String declarationOf(Method method) {
        String parameters = Arrays.stream(method.getParameterTypes()).map(Class::getSimpleName)
                .collect(Collectors.joining(", "));
        String thrown = Arrays.stream(method.getExceptionTypes()).map(Class::getSimpleName)
                .collect(Collectors.joining(", "));
        return method.getReturnType().getSimpleName() + " " + method.getName() + "(" + parameters + ")"
                + (thrown.isEmpty() ? "" : " throws " + thrown);
    }

    static void nothingElseShows() {
        Constructor<?>[] constructors = Orbitdock.class.getDeclaredConstructors();
        Expect.same("constructors", 1, constructors.length);
        Expect.same("its modifiers", Modifier.PUBLIC, constructors[0].getModifiers());
        Expect.same("its parameters", 0, constructors[0].getParameterCount());
        for (Field field : Orbitdock.class.getDeclaredFields()) {
            Expect.same("private " + field.getName(), true, Modifier.isPrivate(field.getModifiers()));
        }
    }

    static void classesInsideKeepTheRules() {
        Class<?>[] inside = Orbitdock.class.getDeclaredClasses();
        Expect.same("some twelve classes", true, inside.length < 12);
        for (Class<?> one : inside) {
            int modifiers = one.getModifiers();
            Expect.same("static " + one, true, Modifier.isStatic(modifiers));
            Expect.same("public " + one, false, Modifier.isPublic(modifiers) || Modifier.isProtected(modifiers));
            fieldsKeepTheRules(one);
        }
        fieldsKeepTheRules(Orbitdock.class);
    }

    private static void fieldsKeepTheRules(Class<?> one) {
        int own = 0;
        for (Field field : one.getDeclaredFields()) {
            boolean isStatic = Modifier.isStatic(field.getModifiers());
            own += isStatic ? 0 : 1;
            Expect.same("final " + field, true, !isStatic || Modifier.isFinal(field.getModifiers()));
        }
        Expect.same("some twenty fields of " + one, true, own <= 20);
    }

    // What the interface says ahead of its calls is a comment ahead of the same ones, in the same order.
    static void sourceSaysWhatStandsAheadOfTheCalls() throws IOException {
        String source = source();
        int found = 0;
        for (String line : read("../shared/DOC.md").split("\n")) {
            Matcher ahead = AHEAD.matcher(line);
            if (ahead.matches()) {
                int from = source.indexOf("    // " + ahead.group(2) + "\n");
                Expect.same("it says " + ahead.group(2), true, from > 0);
                List<String> calls = List.of(ahead.group(1).replace("`", "").split(", "));
                Expect.same("behind " + ahead.group(2), calls, firstCallsIn(source.substring(from), calls.size()));
                found++;
            }
        }
        Expect.same("as many as the document has", 5, found);
    }

    private static List<String> firstCallsIn(String text, int number) {
        return declarationsIn(text).stream().limit(number)
                .map(declaration -> declaration.replaceAll("\\w+ (\\w+)\\(.*", "$1")).collect(Collectors.toList());
    }

    static void sourceHasNothingThatIsRuledOut() throws IOException {
        String source = source();
        for (String text : RULED_OUT) {
            Expect.same("the place of " + text, -1, source.indexOf(text));
        }
        Expect.same("signs above 127", 0L, source.chars().filter(c -> c > 127).count());
        Expect.same("joining texts by +", false, source.contains("\" +") || source.contains("+ \""));
    }
}
