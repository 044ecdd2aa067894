import java.io.IOException;
import java.lang.reflect.Method;
import java.lang.reflect.Modifier;
import java.nio.file.Files;
import java.nio.file.Path;
import java.util.List;
import java.util.regex.Matcher;
import java.util.regex.Pattern;
import java.util.stream.Collectors;
import java.util.stream.Stream;

/** What README.md tells holds: the answers in its example, the commands, and the names of calls and tests. */
public final class ReadmeTests {
    private static final Path README = Path.of("README.md");
    private static final Path TESTS = Path.of("src/test/java");
    private static final String REFUSED = "throws.UnsupportedOperationException";

    private ReadmeTests() {
    }

    public static void main(String[] args) throws IOException {
        String page = Files.readString(README);
        exampleAnswersWhatItTells(page);
        commandsDoWhatTheirCallsDo(page);
        eachCallIsTold(page);
        eachTestIsTold(page);
        TestKit.finish();
    }

    private static void exampleAnswersWhatItTells(String page) {
        int begin = page.indexOf("```java");
        String[] lines = page.substring(begin, page.indexOf("```", begin + 3)).split("\n");
        Pattern call = Pattern.compile("house\\.(.*\\));\\s*// ([\\w.]+).*");
        Pattern text = Pattern.compile("type\\(\"(.*)\"\\);.*");
        TestHouse house = new TestHouse();
        int calls = 0;
        for (String line : lines) {
            Matcher called = call.matcher(line);
            Matcher typed = text.matcher(line);
            if (called.matches()) {
                String due = called.group(2).equals("refused") ? REFUSED : called.group(2);
                TestKit.due("README: " + called.group(1), house.call(called.group(1)), due);
                calls++;
            } else if (typed.matches()) {
                house.type(typed.group(1));
            }
        }
        TestKit.due("README: the line", house.line().startsWith("2*4 .*1 "), true);
        TestKit.due("README: calls of the example", calls, 18);
    }

    private static void commandsDoWhatTheirCallsDo(String page) {
        Matcher row = Pattern.compile("(?m)^\\| `(\\S+)` \\| `(\\w+\\(.*\\))` \\|$").matcher(page);
        int commands = 0;
        while (row.find()) {
            boolean isOfQuarrel = row.group(1).startsWith("e");
            boolean isOfCoda = row.group(1).equals("n");
            TestRun house = TestRun.after("b;b;b", "s01@1*1", isOfQuarrel ? "q010" : "b", isOfCoda ? "c0>2" : "b");
            house.doesAs(row.group(1), row.group(2)).tells(row.group(1), 1);
            commands++;
        }
        TestKit.due("README: commands", commands, 10);
    }

    private static void eachCallIsTold(String page) {
        for (Method method : SisterSteps.class.getDeclaredMethods()) {
            if (Modifier.isPublic(method.getModifiers())) {
                Pattern cell = Pattern.compile("(?m)^\\| [^|]*`" + method.getName() + "`[^|]* \\|");
                TestKit.due("README: tells of " + method.getName(), cell.matcher(page).find(), true);
            }
        }
    }

    private static void eachTestIsTold(String page) throws IOException {
        List<String> names;
        try (Stream<Path> files = Files.list(TESTS)) {
            names = files.map(file -> file.getFileName().toString().replace(".java", "")).sorted()
                    .collect(Collectors.toList());
        }
        for (String name : names) {
            if (!name.startsWith("Test")) {
                TestKit.due("README: tells of " + name, page.contains("| `" + name + "` |"), true);
            }
        }
        TestKit.due("tests are there", names.contains("ReadmeTests"), true);
    }
}
