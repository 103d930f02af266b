import java.io.IOException;
import java.lang.reflect.InvocationTargetException;
import java.lang.reflect.Method;
import java.nio.file.Files;
import java.nio.file.Path;
import java.util.Arrays;
import java.util.Set;
import java.util.TreeSet;
import java.util.regex.Matcher;
import java.util.regex.Pattern;

/** The calls of README.md, one after the other on a new loft, answer what stands behind them. */
public final class ReadmeTest {
    private static final Pattern CALL = Pattern.compile("^loft\\.(\\w+)\\((.*)\\); +// ([^:]+): ", Pattern.MULTILINE);

    public static void main(String[] args) throws IOException, IllegalAccessException {
        HerbLoft loft = new HerbLoft();
        Set<String> called = new TreeSet<>();
        Matcher found = CALL.matcher(Files.readString(Path.of("README.md")));
        while (found.find()) {
            called.add(found.group(1));
            String got = answer(loft, found.group(1), found.group(2));
            if (!got.equals(found.group(3))) {
                Check.note("README: " + found.group(1) + "(" + found.group(2) + ") answered " + got
                        + ", it says " + found.group(3));
            }
        }
        for (Method method : HerbLoft.class.getMethods()) {
            if (method.getDeclaringClass() == HerbLoft.class && !called.contains(method.getName())) {
                Check.note("README: no call of " + method.getName());
            }
        }
        Check.end();
    }

    private static String answer(HerbLoft loft, String name, String numbers) throws IllegalAccessException {
        Object[] given = numbers.isEmpty()
                ? new Object[0] : Arrays.stream(numbers.split(", ")).map(Integer::valueOf).toArray();
        for (Method method : HerbLoft.class.getMethods()) {
            if (method.getName().equals(name) && method.getParameterCount() == given.length) {
                try {
                    return String.valueOf(method.invoke(loft, given));
                } catch (InvocationTargetException e) {
                    return e.getCause().getClass().getSimpleName();
                }
            }
        }
        return "nothing, there is no such call";
    }
}
