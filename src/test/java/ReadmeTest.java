import java.io.IOException;
import java.lang.reflect.Method;
import java.nio.file.Files;
import java.nio.file.Path;
import java.util.regex.Matcher;
import java.util.regex.Pattern;

/** README.md tells no wrong answer, and names every call and every test. Run from the project's root. */
public final class ReadmeTest {
    private static final Path README = Path.of("README.md");
    private static final Path TESTS = Path.of("src/test/java");
    private static final Pattern BLOCK = Pattern.compile("```java\\n(.*?)```", Pattern.DOTALL);
    private static final Pattern ROW = Pattern.compile("x\\.(\\w+)\\((.*)\\); +// (-?\\d+)(:.*)?");
    private static final Pattern TEST_NAMED = Pattern.compile("(?m)^\\| (\\w+Test) \\|");
    private static final String FRESH = "SwitchSeven x = new SwitchSeven();";

    public static void main(String[] args) throws Exception {
        String text = Files.readString(README);
        Matcher block = BLOCK.matcher(text);
        int blocks = 0;
        while (block.find()) {
            runRows(block.group(1).split("\n"));
            blocks++;
        }
        Due.isTrue("rows of code in the README", blocks > 0);
        callsAreNamed(text);
        testsAreNamed(text);
        Due.finish();
    }

    private static void runRows(String[] rows) throws ReflectiveOperationException {
        Due.isTrue("a block begins with a new object: " + rows[0], rows[0].equals(FRESH));
        SwitchSeven x = new SwitchSeven();
        for (int i = 1; i < rows.length; i++) {
            Matcher row = ROW.matcher(rows[i]);
            boolean isCall = row.matches();
            Due.isTrue("a call with its answer: " + rows[i], isCall);
            if (isCall) {
                long got = call(x, row.group(1), row.group(2));
                Due.is("README: " + rows[i].trim(), got, Long.parseLong(row.group(3)));
            }
        }
    }

    private static long call(SwitchSeven x, String name, String list) throws ReflectiveOperationException {
        Method method = method(name);
        String[] texts = list.isEmpty() ? new String[0] : list.split(", ");
        Class<?>[] kinds = method.getParameterTypes();
        Object[] values = new Object[kinds.length];
        for (int i = 0; i < kinds.length; i++) {
            values[i] = value(kinds[i], texts[i]);
        }
        return ((Number) method.invoke(x, values)).longValue();
    }

    private static Object value(Class<?> kind, String text) {
        if (kind == boolean.class) {
            return Boolean.valueOf(text);
        }
        if (kind == long.class) {
            return Long.valueOf(text.replace("L", ""));
        }
        return Integer.valueOf(text);
    }

    private static Method method(String name) {
        for (Method each : SwitchSeven.class.getDeclaredMethods()) {
            if (each.getName().equals(name) && java.lang.reflect.Modifier.isPublic(each.getModifiers())) {
                return each;
            }
        }
        throw new IllegalStateException("README calls what is not there: " + name);
    }

    /** As in the document's face: the types alone can be seen at run time, the names stand in the README. */
    private static void callsAreNamed(String text) {
        for (Method each : SwitchSeven.class.getDeclaredMethods()) {
            if (java.lang.reflect.Modifier.isPublic(each.getModifiers())) {
                StringBuilder pattern = new StringBuilder("`" + each.getName() + "\\(");
                String between = "";
                for (Class<?> kind : each.getParameterTypes()) {
                    pattern.append(between).append(kind.getName()).append(" \\w+");
                    between = ", ";
                }
                Due.isTrue("README names " + each, Pattern.compile(pattern + "\\)`").matcher(text).find());
            }
        }
    }

    private static void testsAreNamed(String text) throws IOException {
        int named = 0;
        Matcher m = TEST_NAMED.matcher(text);
        while (m.find()) {
            Due.isTrue("a test of the README is there: " + m.group(1), Files.exists(TESTS.resolve(m.group(1) + ".java")));
            named++;
        }
        try (java.util.stream.Stream<Path> all = Files.list(TESTS)) {
            Due.is("tests named in the README", named, all.filter(p -> p.toString().endsWith("Test.java")).count());
        }
    }
}
