import java.io.IOException;
import java.lang.reflect.Method;
import java.nio.charset.StandardCharsets;
import java.nio.file.Files;
import java.nio.file.Path;
import java.util.ArrayList;
import java.util.List;
import java.util.regex.Matcher;
import java.util.regex.Pattern;

/** SENTENCES.md has each sentence of the document, and names only tests that stand. */
final class SentencesTest {
    private static final Pattern NAMED = Pattern.compile("`([A-Z][A-Za-z]*Test)\\.([a-z][A-Za-z0-9]*)`");
    private static final Pattern PROMISE = Pattern.compile("Promise [0-9]+: .*");

    private static String read(String path) throws IOException {
        return Files.readString(Path.of(path), StandardCharsets.UTF_8);
    }

    static void allSentencesOfTheDocumentAreThere() throws IOException {
        String document = read("../shared/DOC.md");
        List<String> due = sentencesOf(part(document, "## What it is", "## The public face"));
        due.addAll(sentencesOf(part(document, "## Terms", "## Promise 1:")));
        for (String line : document.split("\n")) {
            if (PROMISE.matcher(line.replace("## ", "")).matches()) {
                due.add(line.replace("## ", ""));
            }
        }
        List<String> found = new ArrayList<>();
        for (String line : read("SENTENCES.md").split("\n")) {
            if (line.startsWith("- ")) {
                found.add(line.substring(2));
            }
        }
        Expect.same("sentences", String.join("\n", due), String.join("\n", found));
    }

    private static String part(String document, String from, String to) {
        int begin = document.indexOf('\n', document.indexOf(from));
        return document.substring(begin, document.indexOf(to));
    }

    // A heading of one or two words, such as "Safe mode.", is none.
    private static List<String> sentencesOf(String text) {
        List<String> sentences = new ArrayList<>();
        for (String sentence : text.strip().replaceAll("\\s+", " ").split("(?<=\\.) ")) {
            if (sentence.split(" ").length > 2) {
                sentences.add(sentence);
            }
        }
        return sentences;
    }

    static void eachHasTestsThatStand() throws IOException, ClassNotFoundException {
        String sentence = "";
        int tests = 1;
        for (String line : (read("SENTENCES.md") + "\n- the end").split("\n")) {
            if (line.startsWith("- ")) {
                Expect.same(sentence + " has tests", true, tests > 0);
                sentence = line;
                tests = 0;
            } else if (line.startsWith("  ")) {
                tests += namedIn(line);
            }
        }
    }

    private static int namedIn(String line) throws ClassNotFoundException {
        Matcher named = NAMED.matcher(line);
        int found = 0;
        while (named.find()) {
            Expect.same(named.group(), true, hasTest(Class.forName(named.group(1)), named.group(2)));
            found++;
        }
        Expect.same("as many as there are marks", line.chars().filter(c -> c == '`').count(), 2L * found);
        return found;
    }

    private static boolean hasTest(Class<?> tests, String name) {
        for (Method method : tests.getDeclaredMethods()) {
            if (method.getName().equals(name) && TestRunner.isTest(method)) {
                return true;
            }
        }
        return false;
    }
}
