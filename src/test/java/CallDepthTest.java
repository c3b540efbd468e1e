import java.io.IOException;
import java.nio.file.Files;
import java.nio.file.Path;
import java.util.HashMap;
import java.util.HashSet;
import java.util.Map;
import java.util.Set;
import java.util.TreeSet;
import java.util.regex.Matcher;
import java.util.regex.Pattern;

/**
 * Rules 8 and 11 of LANGUAGE.md: calls that are no recursion go at most eight deep, and one method alone calls
 * itself. Methods of one name count as one, the public call as the first, and the library's as one each.
 */
public final class CallDepthTest {
    private static final Due due = new Due("CallDepthTest");
    private static final int MOST_DEEP = 8;
    private static final Pattern METHOD = Pattern.compile(
        "(?m)^ {4}(?: {4})?(?:public |private |static )*(?:\\w+(?:\\[\\])? )?(\\w+)\\(([^()]*)\\) \\{$");
    private static final Pattern CALL = Pattern.compile("(\\w+)\\(");
    private static final Set<String> WORDS = Set.of("if", "for", "while", "switch", "return");

    private static final Map<String, Set<String>> called = new HashMap<>();
    private static final Set<String> open = new HashSet<>();
    private static final Set<String> recursive = new TreeSet<>();

    public static void main(String[] args) throws IOException {
        String text = Files.readString(Path.of("src/main/java/CleanSeed.java"));
        read(text.replaceAll("(?s)/\\*.*?\\*/", "").replaceAll("//[^\n]*", ""));
        due.is("methods were found", called.size() > 60, true);
        due.is("a call that was found", called.get("judge").contains("assessUpTo"), true);
        for (String name : called.keySet()) {
            int deep = depth(name);
            due.is(name + " goes " + deep + " deep", deep <= MOST_DEEP, true);
        }
        due.is("what calls itself: " + recursive, recursive.equals(Set.of("search")), true);
        due.end();
    }

    private static void read(String code) {
        Matcher method = METHOD.matcher(code);
        while (method.find()) {
            if (!WORDS.contains(method.group(1))) {
                Set<String> calls = called.computeIfAbsent(method.group(1), name -> new TreeSet<>());
                Matcher call = CALL.matcher(bodyFrom(code, method.end()));
                while (call.find()) {
                    if (!WORDS.contains(call.group(1))) {
                        calls.add(call.group(1));
                    }
                }
            }
        }
    }

    private static String bodyFrom(String code, int start) {
        int open = 1;
        int at = start;
        while (open > 0 && at < code.length()) {
            open += code.charAt(at) == '{' ? 1 : code.charAt(at) == '}' ? -1 : 0;
            at++;
        }
        return code.substring(start, at);
    }

    private static int depth(String name) {
        if (!open.add(name)) {
            recursive.add(name);
            return 0;
        }
        int deepest = 0;
        for (String each : called.getOrDefault(name, Set.of())) {
            deepest = Math.max(deepest, depth(each));
        }
        open.remove(name);
        return deepest + 1;
    }
}
