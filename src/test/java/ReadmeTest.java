import java.io.IOException;
import java.lang.reflect.Method;
import java.lang.reflect.Modifier;
import java.nio.charset.StandardCharsets;
import java.nio.file.Files;
import java.nio.file.Path;

/** README.md tells what the class does. */
final class ReadmeTest {
    private static String readme() throws IOException {
        return Files.readString(Path.of("README.md"), StandardCharsets.UTF_8);
    }

    static void namesAllCalls() throws IOException {
        String readme = readme();
        for (Method method : Orbitdock.class.getDeclaredMethods()) {
            if (Modifier.isPublic(method.getModifiers())) {
                Expect.same(method.getName() + " is named", true, readme.contains("`" + method.getName() + "`"));
            }
        }
    }

    static void tellsTheLimitAndHowToTest() throws IOException {
        String readme = readme();
        for (String text : new String[] {"new Orbitdock()", "512 calls", "throws the exception", "changes nothing",
            "`.ci/run`", "N passed, N failed"}) {
            Expect.same(text + " is told", true, readme.contains(text));
        }
    }

    // The example's lines stand here, but for the printing, so that they are known to compile and to answer so.
    static void theExampleAnswersAsItSays() throws IOException {
        Orbitdock station = new Orbitdock();
        int cabin = station.addRoom(100);
        int person = station.board(cabin);
        station.setDevice(station.addDevice('e', cabin), true);
        station.pass(30);
        String printed = station.oxygen(cabin) + " units, " + station.timeLeft() + " minutes left";
        Expect.same("the person", 0, person);
        Expect.same("its answer is told", true, readme().contains("prints `" + printed + "`"));
        String here = Files.readString(Path.of("src/test/java/ReadmeTest.java"), StandardCharsets.UTF_8);
        for (String line : example().split("\n")) {
            String statement = line.replace("System.out.println(", "String printed = ").replace("\");", "\";");
            Expect.same("here stands " + statement, true, here.contains("        " + statement + "\n"));
        }
    }

    private static String example() throws IOException {
        String readme = readme();
        int from = readme.indexOf("```java\n") + "```java\n".length();
        return readme.substring(from, readme.indexOf("```", from));
    }
}
