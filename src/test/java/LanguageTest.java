import java.io.IOException;
import java.lang.reflect.Executable;
import java.lang.reflect.Field;
import java.lang.reflect.Method;
import java.lang.reflect.Modifier;
import java.nio.file.Files;
import java.nio.file.Path;
import java.util.ArrayList;
import java.util.Arrays;
import java.util.List;
import java.util.Set;
import java.util.regex.Matcher;
import java.util.regex.Pattern;

/** The rules of ../shared/LANGUAGE.md, as far as the text of the program and its classes show them. */
public final class LanguageTest {
    private static final Path PROGRAM = Path.of("src/main/java/HerbLoft.java");

    /** Number of the rule and what the program must not have, as a pattern over its bare text. */
    private static final String[][] FORBIDDEN = {
        {"1", "^\\s*package\\b"},
        {"2", "->|::"},
        {"3", "\\[\\s*\\]\\s*\\[\\s*\\]\\s*\\["},
        {"3", "\\b(Math|Integer|Long)\\.\\w*(sqrt|pow|random|floor\\(|ceil|round|rint|sin|cos|log)"},
        {"4", "^import (?!java\\.util\\.(ArrayList|List|Arrays|Iterator|NoSuchElementException);)"},
        {"4", "\\w+Exact\\b"},
        {"5", "\\bstatic\\s*\\{"},
        {"6", "\\b(finally|synchronized|assert|volatile)\\b"},
        {"6", "\\btry\\s*\\("},
        {"6", "\\bthrow\\b(?! new (IllegalStateException|IllegalArgumentException|IndexOutOfBoundsException"
            + "|ArithmeticException|UnsupportedOperationException|NoSuchElementException|RuntimeException)"
            + "\\((\"\")?\\);)"},
        {"6", "\\bcatch\\s*\\(\\s*(final\\s+)?(Exception|Throwable|Error|ArrayIndexOutOfBoundsException"
            + "|NullPointerException|ClassCastException|NegativeArraySizeException|ArrayStoreException)\\b"},
        {"6", "\\b(getMessage|hashCode|getClass)\\b"},
        {"9", "\\b(while\\s*\\(\\s*true|for\\s*\\([^;]*;\\s*;)"},
        {"10", "\"\"\\s*\\+|\\+\\s*\"\""},
        {"13", "\\bSystem\\.(?!arraycopy\\b)"},
        {"13", "\\b(Thread|Random|Runtime|Process|File|Path|Socket|Clock|Instant)\\b"},
    };

    private static final Set<Class<?>> STATIC_TYPES = Set.of(
        int.class, long.class, boolean.class, char.class, String.class, int[].class, long[].class, char[].class,
        byte[].class);

    public static void main(String[] args) throws IOException {
        String bare = bareText(Files.readString(PROGRAM));
        for (String[] rule : FORBIDDEN) {
            Matcher found = Pattern.compile(rule[1], Pattern.MULTILINE).matcher(bare);
            while (found.find()) {
                Check.note("rule " + rule[0] + ": " + lineAt(bare, found.start()));
            }
        }
        List<Class<?>> classes = new ArrayList<>();
        addAll(HerbLoft.class, classes);
        if (classes.size() > 12) {
            Check.note("rule 11: " + classes.size() + " classes");
        }
        for (Class<?> one : classes) {
            look(one);
        }
        methodsAreShort(bare);
        Check.end();
    }

    /** The text without its comments, with each written text empty; its lines stay as they are. */
    private static String bareText(String text) {
        Matcher found = Pattern.compile("\"(\\\\.|[^\"\\\\])*\"|//[^\\n]*|/\\*.*?\\*/", Pattern.DOTALL).matcher(text);
        return found.replaceAll(part -> part.group().startsWith("\"") ? "\"\"" : part.group().replaceAll("[^\\n]", ""));
    }

    private static String lineAt(String text, int place) {
        int end = text.indexOf('\n', place);
        return text.substring(text.lastIndexOf('\n', place) + 1, end < 0 ? text.length() : end).trim();
    }

    private static void addAll(Class<?> one, List<Class<?>> classes) {
        classes.add(one);
        for (Class<?> inside : one.getDeclaredClasses()) {
            int modifiers = inside.getModifiers();
            if (!Modifier.isStatic(modifiers) || Modifier.isPublic(modifiers) || Modifier.isProtected(modifiers)) {
                Check.note("rule 1: " + inside);
            }
            addAll(inside, classes);
        }
    }

    private static void look(Class<?> one) {
        int fields = 0;
        for (Field field : one.getDeclaredFields()) {
            if (!Modifier.isStatic(field.getModifiers())) {
                fields++;
            } else if (!Modifier.isFinal(field.getModifiers()) || !STATIC_TYPES.contains(field.getType())) {
                Check.note("rule 5: " + field);
            }
        }
        if (fields > 20) {
            Check.note("rule 11: " + fields + " fields in " + one);
        }
        for (Method method : one.getDeclaredMethods()) {
            if (Set.of("equals", "hashCode", "toString").contains(method.getName())) {
                Check.note("rule 6: " + method);
            }
        }
        if (Throwable.class.isAssignableFrom(one)) {
            Check.note("rule 6: an exception of its own, " + one);
        }
        List<Executable> calls = new ArrayList<>(Arrays.asList(one.getDeclaredMethods()));
        calls.addAll(Arrays.asList(one.getDeclaredConstructors()));
        for (Executable call : calls) {
            if (call.getParameterCount() > 7) {
                Check.note("rule 11: " + call);
            }
        }
    }

    /** A method ends with a brace that stands as far in as its first line. */
    private static void methodsAreShort(String bare) {
        Matcher found = Pattern.compile(
            "^( +)(?!class\\b)[\\w<>\\[\\] ]*\\b\\w+\\([^;{]*\\)[^;{()]*\\{\\n(.*?)^\\1\\}$",
            Pattern.MULTILINE | Pattern.DOTALL).matcher(bare);
        int methods = 0;
        while (found.find()) {
            methods++;
            if (found.group().lines().count() > 60) {
                Check.note("rule 11: a long method, " + lineAt(bare, found.start()));
            }
        }
        if (methods < 19) {
            Check.note("rule 11: too few methods found, " + methods);
        }
    }
}
