import java.io.IOException;
import java.lang.reflect.Method;
import java.nio.file.Files;
import java.nio.file.Path;
import java.util.List;
import java.util.regex.Matcher;
import java.util.regex.Pattern;

/** What README.md shows: each call of its example answers as it says, and no call of the face is left out. */
public final class ReadmeTest {
    private static final Due due = new Due("ReadmeTest");
    private static final Pattern SHOWN = Pattern.compile("office\\.(\\w+\\(.*\\)); +// (-?\\w+).*");

    public static void main(String[] args) throws IOException {
        String page = Files.readString(Path.of("README.md"));
        example(page.lines().toList());
        for (Method method : CleanSeed.class.getMethods()) {
            if (method.getDeclaringClass() == CleanSeed.class) {
                due.is("the page names " + method.getName(), page.contains("`" + method.getName() + "`"), true);
            }
        }
        due.is("the page tells how to run the tests", page.contains("\n.ci/run\n"), true);
        for (Path test : tests()) {
            String name = test.getFileName().toString().replace(".java", "");
            boolean isNamed = page.contains("`" + name + "`") || name.endsWith("BoundsTest");
            due.is("the page names " + name, isNamed, true);
        }
        due.end();
    }

    private static void example(List<String> lines) {
        CleanSeed office = new CleanSeed();
        int shown = 0;
        for (String line : lines) {
            if (line.startsWith("office.")) {
                Matcher parts = SHOWN.matcher(line);
                due.is("a call with its answer: " + line, parts.matches(), true);
                due.is(line, Call.of(parts.group(1)).on(office), number(parts.group(2)));
                shown++;
            }
        }
        due.is("the page shows calls", shown > 10, true);
    }

    private static long number(String answer) {
        switch (answer) {
            case "NONE": return CleanSeed.NONE;
            case "true": return 1;
            case "false": return 0;
            default: return Long.parseLong(answer);
        }
    }

    private static List<Path> tests() throws IOException {
        try (var files = Files.list(Path.of("src/test/java"))) {
            return files.filter(file -> file.toString().endsWith("Test.java")).toList();
        }
    }
}
