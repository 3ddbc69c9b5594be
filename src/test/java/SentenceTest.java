import java.io.IOException;
import java.lang.reflect.Method;
import java.nio.file.Files;
import java.nio.file.Path;
import java.util.ArrayList;
import java.util.List;
import java.util.regex.Matcher;
import java.util.regex.Pattern;

/**
 * src/test/sentences.txt has the document in pieces, each with its tests: no piece
 * of the document is left out or told otherwise, each has a test or is said to need
 * none, and each of these tests is there and is called.
 */
final class SentenceTest {
    private static final Path PIECES = Path.of("src/test/sentences.txt");
    private static final Path DOCUMENT = Path.of("../shared/DOC.md");
    private static final Path TESTS = Path.of("src/test/java");
    private static final String NO_TEST = "-";
    private static final Check CHECK = new Check();

    public static void main(String[] args) throws IOException {
        List<String> lines = Files.readAllLines(PIECES);
        lines.removeIf(line -> line.isBlank() || line.startsWith("# "));
        eachPieceHasTests(lines);
        nothingIsLeftOut(lines);
        CHECK.end();
    }

    private static boolean namesTests(String line) {
        return line.startsWith("    ");
    }

    private static void eachPieceHasTests(List<String> lines) throws IOException {
        for (int i = 0; i < lines.size(); i += 2) {
            String piece = lines.get(i);
            boolean pair = !namesTests(piece) && i + 1 < lines.size() && namesTests(lines.get(i + 1));
            CHECK.holds("a piece, then its tests: " + piece, pair);
            if (!pair) {
                return;
            }
            String tests = lines.get(i + 1).trim();
            if (!tests.equals(NO_TEST)) {
                for (String test : tests.split(" +")) {
                    CHECK.holds(test + " is there, for: " + piece, isThere(test));
                }
            }
        }
    }

    /** A test's method is told as its class, a dot and its name. */
    private static boolean isThere(String test) throws IOException {
        Matcher parts = Pattern.compile("(\\w+Test)\\.(\\w+)").matcher(test);
        return parts.matches() && hasMethod(parts.group(1), parts.group(2)) && isCalled(parts.group(1), parts.group(2));
    }

    private static boolean hasMethod(String className, String name) {
        try {
            for (Method method : Class.forName(className).getDeclaredMethods()) {
                if (method.getName().equals(name)) {
                    return true;
                }
            }
            return false;
        } catch (ClassNotFoundException e) {
            return false;
        }
    }

    /** The name stands once where it is written, and once more where it is called. */
    private static boolean isCalled(String className, String name) throws IOException {
        String source = Files.readString(TESTS.resolve(className + ".java"));
        long times = Pattern.compile("\\b" + name + "\\b").matcher(source).results().count();
        return name.equals("main") || times > 1;
    }

    private static String joined(List<String> lines) {
        return String.join("", lines).replaceAll("\\s+", "");
    }

    private static void nothingIsLeftOut(List<String> lines) throws IOException {
        if (!Files.exists(DOCUMENT)) {
            System.out.println(DOCUMENT + " is not here, so the pieces are not compared with it");
            return;
        }
        List<String> document = new ArrayList<>(Files.readAllLines(DOCUMENT));
        document.removeIf(line -> line.startsWith("#") || line.startsWith("```"));
        List<String> pieces = new ArrayList<>(lines);
        pieces.removeIf(SentenceTest::namesTests);
        String due = joined(document);
        String got = joined(pieces);
        int same = 0;
        while (same < due.length() && same < got.length() && due.charAt(same) == got.charAt(same)) {
            same++;
        }
        CHECK.holds("the document goes on otherwise at: " + part(due, same) + ", the pieces: " + part(got, same), due.equals(got));
    }

    private static String part(String text, int from) {
        return text.substring(from, Math.min(text.length(), from + 40));
    }
}
