import java.io.IOException;
import java.lang.reflect.Constructor;
import java.lang.reflect.Field;
import java.lang.reflect.Method;
import java.lang.reflect.Modifier;
import java.nio.file.Files;
import java.nio.file.Path;
import java.util.ArrayDeque;
import java.util.Deque;
import java.util.TreeSet;
import java.util.regex.Matcher;
import java.util.regex.Pattern;

/** The rules of LANGUAGE.md that can be seen from the text of the class, and its public face. */
public final class LanguageTest {
    private static final Due due = new Due("LanguageTest");
    private static final String[] RULED_OUT = {"\\bthrow\\b", "\\btry\\b", "\\bcatch\\b", "\\bsynchronized\\b",
        "\\bassert\\b", "\\bimport\\b", "\\bpackage\\b", "->", "::", "Exact\\b", "\\bprotected\\b", "\\bhashCode\\b",
        "\\btoString\\b", "\\bequals\\b", "\\bdouble\\b", "\\bfloat\\b", "\\bObject\\b", "\"", "static\\s*\\{"};
    private static final int MOST_LINES = 60;
    private static final String FACE = "bag buyers count drawn field force harvest judge look mix near open plan prove "
        + "sack seal sell sow stand stands statute told toss touched tube want ways why year";

    public static void main(String[] args) throws IOException {
        String text = Files.readString(Path.of("src/main/java/CleanSeed.java"));
        String code = text.replaceAll("(?s)/\\*.*?\\*/", "").replaceAll("//[^\n]*", "");
        for (String word : RULED_OUT) {
            Matcher found = Pattern.compile(word).matcher(code);
            due.is("uses of " + word, found.results().count(), 0);
        }
        Matcher library = Pattern.compile("\\b([A-Z][a-z]\\w*)\\s*\\.").matcher(code);
        while (library.find()) {
            boolean isListed = library.group(1).equals("Math") || library.group(1).equals("System");
            due.is("the library's " + library.group(1), isListed, true);
        }
        due.is("lines of the longest method", longestMethod(code) <= MOST_LINES, true);
        face();
        statics();
        due.is("classes", CleanSeed.class.getDeclaredClasses().length <= 11, true);
        for (Class<?> inside : CleanSeed.class.getDeclaredClasses()) {
            due.is(inside + " is static", Modifier.isStatic(inside.getModifiers()), true);
            due.is(inside + " has few fields", inside.getDeclaredFields().length <= 20, true);
            noFaceNames(inside);
        }
        due.end();
    }

    /** Brackets that are opened right inside a class are those of a method (or of a row of constants). */
    private static int longestMethod(String code) {
        int longest = 0;
        int begun = 0;
        Deque<Boolean> openClasses = new ArrayDeque<>();
        String[] lines = code.split("\n");
        for (int i = 0; i < lines.length; i++) {
            for (char sign : lines[i].toCharArray()) {
                if (sign == '{') {
                    boolean isClass = lines[i].contains(" class ");
                    begun = !isClass && openClasses.peek() ? i : begun;
                    openClasses.push(isClass);
                } else if (sign == '}' && !openClasses.pop() && openClasses.peek()) {
                    longest = Math.max(longest, i - begun + 1);
                }
            }
        }
        due.is("methods were found", longest > 10, true);
        return longest;
    }

    private static void statics() {
        for (Field field : CleanSeed.class.getDeclaredFields()) {
            boolean isStatic = Modifier.isStatic(field.getModifiers());
            Class<?> type = field.getType();
            boolean isConstant = type == int.class || type == long.class || type == int[].class;
            due.is(field + " is a constant", !isStatic || isConstant && Modifier.isFinal(field.getModifiers()), true);
        }
        for (Class<?> inside : CleanSeed.class.getDeclaredClasses()) {
            for (Field field : inside.getDeclaredFields()) {
                due.is(field + " is of an object", Modifier.isStatic(field.getModifiers()), false);
            }
        }
    }

    private static void face() {
        TreeSet<String> seen = new TreeSet<>();
        for (Method method : CleanSeed.class.getDeclaredMethods()) {
            if (Modifier.isPublic(method.getModifiers())) {
                seen.add(method.getName());
            } else {
                due.is(method + " is private", Modifier.isPrivate(method.getModifiers()), true);
                due.is(method + " has its own name", (" " + FACE + " ").contains(" " + method.getName() + " "), false);
            }
        }
        due.is("the face", String.join(" ", seen).equals(FACE), true);
        for (Field field : CleanSeed.class.getDeclaredFields()) {
            boolean isNone = field.getName().equals("NONE");
            due.is(field + " is hidden", Modifier.isPrivate(field.getModifiers()), !isNone);
        }
        for (Constructor<?> constructor : CleanSeed.class.getDeclaredConstructors()) {
            due.is("its constructor", constructor.getParameterCount(), 0);
        }
        due.is("it is final", Modifier.isFinal(CleanSeed.class.getModifiers()), true);
    }

    private static void noFaceNames(Class<?> inside) {
        for (Method method : inside.getDeclaredMethods()) {
            due.is(method + " has its own name", (" " + FACE + " ").contains(" " + method.getName() + " "), false);
            due.is(method + " takes few", method.getParameterCount() <= 7, true);
        }
    }
}
