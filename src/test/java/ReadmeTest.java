import java.io.IOException;
import java.lang.reflect.InvocationTargetException;
import java.lang.reflect.Method;
import java.nio.file.Files;
import java.nio.file.Path;
import java.util.HashSet;
import java.util.List;
import java.util.Set;
import java.util.TreeSet;
import java.util.regex.Matcher;
import java.util.regex.Pattern;
import java.util.stream.Collectors;
import java.util.stream.Stream;

/** README.md is true of the class: its examples answer as it says, and it names each method and each test. */
final class ReadmeTest {
    private static final Path README = Path.of("README.md");
    private static final Path TESTS = Path.of("src/test/java");
    /* A call at a line's start, and the number that it answers where the remark behind it begins with one. */
    private static final Pattern CALL = Pattern.compile("cores\\.(\\w+)\\(([^()]*)\\);\\s*(?:// (-?\\d+)(?: .*|:.*)?|//.*)?");
    private static final Check CHECK = new Check();

    public static void main(String[] args) throws IOException {
        List<String> lines = Files.readAllLines(README);
        examples(lines);
        String text = String.join("\n", lines);
        namesEachMethod(text);
        namesEachTest(text);
        CHECK.end();
    }

    private static void examples(List<String> lines) {
        boolean inside = false;
        TwinCores cores = null;
        int answers = 0;
        for (String line : lines) {
            if (line.startsWith("```")) {
                inside = line.equals("```java");
            } else if (inside && line.equals("TwinCores cores = new TwinCores();")) {
                cores = new TwinCores();
            } else if (inside && !line.isBlank() && !line.startsWith("//")) {
                answers += example(cores, line);
            }
        }
        CHECK.holds("answers are told", answers > 0);
    }

    /** Makes the call of a line; 1 if the line tells its answer. */
    private static int example(TwinCores cores, String line) {
        Matcher call = CALL.matcher(line);
        CHECK.holds("a call on an object: " + line, cores != null && call.matches());
        if (cores == null || !call.matches()) {
            return 0;
        }
        Object answer = made(cores, call.group(1), call.group(2));
        if (call.group(3) == null) {
            return 0;
        }
        CHECK.same(line, answer instanceof Number ? ((Number) answer).longValue() : Long.MIN_VALUE, Long.parseLong(call.group(3)));
        return 1;
    }

    private static Object made(TwinCores cores, String name, String written) {
        Object[] values = Stream.of(written.split(",")).map(String::trim).filter(value -> !value.isEmpty())
                .map(value -> (Object) Long.decode(value).intValue()).toArray();
        for (Method method : TwinCores.class.getMethods()) {
            if (method.getName().equals(name) && method.getParameterCount() == values.length) {
                try {
                    return method.invoke(cores, values);
                } catch (InvocationTargetException e) {
                    return e.getCause();
                } catch (IllegalAccessException e) {
                    throw new IllegalStateException(e);
                }
            }
        }
        throw new IllegalStateException("no such method: " + name);
    }

    private static void namesEachMethod(String text) {
        for (Method method : TwinCores.class.getDeclaredMethods()) {
            if (java.lang.reflect.Modifier.isPublic(method.getModifiers())) {
                CHECK.holds("tells of " + method.getName(), text.contains("`" + method.getName() + "("));
            }
        }
    }

    private static void namesEachTest(String text) throws IOException {
        Set<String> named = new HashSet<>();
        Matcher names = Pattern.compile("\\b[A-Z]\\w*Test\\b").matcher(text);
        while (names.find()) {
            named.add(names.group());
        }
        try (Stream<Path> files = Files.list(TESTS)) {
            Set<String> there = files.map(file -> file.getFileName().toString()).filter(name -> name.endsWith("Test.java"))
                    .map(name -> name.replace(".java", "")).collect(Collectors.toCollection(TreeSet::new));
            CHECK.holds("names " + named + ", there are " + there, named.equals(there));
        }
    }
}
