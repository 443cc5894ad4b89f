import java.io.IOException;
import java.lang.reflect.Method;
import java.nio.charset.StandardCharsets;
import java.nio.file.Files;
import java.nio.file.Path;
import java.util.regex.Matcher;
import java.util.regex.Pattern;

/** BOUNDARIES.md names only tests that stand. */
final class BoundariesTest {
    private static final Pattern NAMED = Pattern.compile("`([A-Z][A-Za-z]*Test)\\.([a-z][A-Za-z0-9]*)`");

    static void theTestsThatAreNamedStand() throws IOException, ClassNotFoundException {
        String text = Files.readString(Path.of("BOUNDARIES.md"), StandardCharsets.UTF_8);
        Matcher named = NAMED.matcher(text);
        int found = 0;
        while (named.find()) {
            Expect.same(named.group(), true, hasTest(Class.forName(named.group(1)), named.group(2)));
            found++;
        }
        Expect.same("as many as there are marks", text.chars().filter(c -> c == '`').count(), 2L * found);
    }

    private static boolean hasTest(Class<?> tests, String name) {
        for (Method method : tests.getDeclaredMethods()) {
            if (method.getName().equals(name) && TestRunner.isTest(method)) {
                return true;
            }
        }
        return false;
    }
}
