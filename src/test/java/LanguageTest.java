import java.io.IOException;
import java.lang.reflect.Constructor;
import java.lang.reflect.Field;
import java.lang.reflect.Method;
import java.lang.reflect.Modifier;
import java.nio.file.Files;
import java.nio.file.Path;
import java.util.TreeSet;
import java.util.regex.Matcher;
import java.util.regex.Pattern;

/** The rules of LANGUAGE.md that can be seen from the text of the class, and its public face. */
public final class LanguageTest {
    private static final Due due = new Due("LanguageTest");
    private static final String[] RULED_OUT = {"\\bthrow\\b", "\\btry\\b", "\\bcatch\\b", "\\bsynchronized\\b",
        "\\bassert\\b", "\\bimport\\b", "\\bpackage\\b", "->", "::", "Exact\\b", "\\bprotected\\b", "\\bhashCode\\b",
        "\\btoString\\b", "\\bequals\\b", "\\bdouble\\b", "\\bfloat\\b", "\\bObject\\b", "\"", "static\\s*\\{"};
    private static final String FACE = "bag buyers count drawn field force harvest judge look mix near open plan prove "
        + "sack seal sell sow stand stands statute told toss touched tube want ways why year";

    public static void main(String[] args) throws IOException {
        String text = Files.readString(Path.of("src/main/java/CleanSeed.java"));
        String code = text.replaceAll("(?s)/\\*.*?\\*/", "").replaceAll("//[^\n]*", "");
        for (String word : RULED_OUT) {
            Matcher found = Pattern.compile(word).matcher(code);
            due.is("uses of " + word, found.results().count(), 0);
        }
        face();
        due.is("classes", CleanSeed.class.getDeclaredClasses().length <= 11, true);
        for (Class<?> inside : CleanSeed.class.getDeclaredClasses()) {
            due.is(inside + " is static", Modifier.isStatic(inside.getModifiers()), true);
            due.is(inside + " has few fields", inside.getDeclaredFields().length <= 20, true);
            noFaceNames(inside);
        }
        due.end();
    }

    private static void face() {
        TreeSet<String> seen = new TreeSet<>();
        for (Method method : CleanSeed.class.getDeclaredMethods()) {
            if (Modifier.isPublic(method.getModifiers())) {
                seen.add(method.getName());
            } else {
                due.is(method + " is private", Modifier.isPrivate(method.getModifiers()), true);
                due.is(method + " has its own name", (" " + FACE + " ").contains(" " + method.getName() + " "), false);
            }
        }
        due.is("the face", String.join(" ", seen).equals(FACE), true);
        for (Field field : CleanSeed.class.getDeclaredFields()) {
            boolean isNone = field.getName().equals("NONE");
            due.is(field + " is hidden", Modifier.isPrivate(field.getModifiers()), !isNone);
        }
        for (Constructor<?> constructor : CleanSeed.class.getDeclaredConstructors()) {
            due.is("its constructor", constructor.getParameterCount(), 0);
        }
        due.is("it is final", Modifier.isFinal(CleanSeed.class.getModifiers()), true);
    }

    private static void noFaceNames(Class<?> inside) {
        for (Method method : inside.getDeclaredMethods()) {
            due.is(method + " has its own name", (" " + FACE + " ").contains(" " + method.getName() + " "), false);
            due.is(method + " takes few", method.getParameterCount() <= 7, true);
        }
    }
}
