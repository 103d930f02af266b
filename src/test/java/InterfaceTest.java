import java.io.IOException;
import java.nio.file.Files;
import java.nio.file.Path;
import java.util.ArrayList;
import java.util.List;
import java.util.regex.Matcher;
import java.util.regex.Pattern;

/** What the interface says ahead of its calls, and the calls as the document writes them, in its order. */
public final class InterfaceTest {
    private static final Path PROGRAM = Path.of("src/main/java/HerbLoft.java");
    private static final String INDEX = "IndexOutOfBoundsException";
    private static final String ARGUMENT = "IllegalArgumentException";
    private static final String STATE = "IllegalStateException";

    private static final List<String> DUE = List.of(
        "public HerbLoft()",
        "---- herbs and bundles",
        "public int herb(int ease, int limit) throws " + ARGUMENT + ", " + STATE,
        "public int hang(int string, int hook, int herb, int wet) throws " + INDEX + ", " + ARGUMENT + ", " + STATE,
        "public int take(int string, int hook) throws " + INDEX + ", " + STATE,
        "public int move(int string, int hook, int string2, int hook2) throws " + INDEX + ", " + STATE,
        "public int turn(int string) throws " + INDEX,
        "public int setWindow(int open) throws " + ARGUMENT,
        "---- orders",
        "public int order(int herb, int many, int wet) throws " + INDEX + ", " + ARGUMENT + ", " + STATE,
        "public int fill()",
        "---- days",
        "public int pass(int days, int damp) throws " + ARGUMENT,
        "---- what there is",
        "public int told(int string, int hook, int what) throws " + INDEX,
        "public int about(int herb, int what) throws " + INDEX,
        "public int asked(int order, int what) throws " + INDEX,
        "public int count(int what) throws " + INDEX,
        "---- what would be",
        "public int until(int string, int hook, int wet, int damp) throws " + INDEX + ", " + ARGUMENT,
        "public int foresee(int days, int damp, int what) throws " + ARGUMENT + ", " + INDEX,
        "public int advise(int days, int damp) throws " + ARGUMENT,
        "public double mean()",
        "public long digest()");

    public static void main(String[] args) throws IOException {
        String text = Files.readString(PROGRAM);
        Matcher found = Pattern.compile("//\\s*(----[^\\n]*)|(public [^{;=]*\\([^{;]*)\\{").matcher(text);
        List<String> got = new ArrayList<>();
        while (found.find()) {
            String line = found.group(1) != null ? found.group(1) : found.group(2);
            got.add(line.trim().replaceAll("\\s+", " "));
        }
        if (!got.equals(DUE)) {
            Check.note("the interface says " + got + ", due is " + DUE);
        }
        if (!text.contains("/** A loft in which herbs dry. */\npublic final class HerbLoft {")) {
            Check.note("the class does not say what it is");
        }
        Check.end();
    }
}
