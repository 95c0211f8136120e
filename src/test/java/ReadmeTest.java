import java.io.IOException;
import java.lang.reflect.InvocationTargetException;
import java.lang.reflect.Method;
import java.nio.file.Files;
import java.nio.file.Path;
import java.util.List;
import java.util.TreeSet;
import java.util.regex.Matcher;
import java.util.regex.Pattern;
import java.util.stream.Stream;

/** README.md: its examples' calls answer what stands behind them, and its list of tests is whole. */
public final class ReadmeTest {
    private static final Pattern CALL =
        Pattern.compile("x\\.(\\w+)\\(([-0-9, ]*)\\);\\s+// (-?[0-9]+|NOTHING|ArithmeticException)(:.*)?");
    private static final String NEW = "JavaBridge x = new JavaBridge();";
    private static final String THREW = "ArithmeticException";
    private static final Check CHECK = new Check("readme");

    private static JavaBridge x;
    private static final TreeSet<String> CALLED = new TreeSet<>();

    public static void main(String[] args) throws IOException, IllegalAccessException {
        List<String> lines = Files.readAllLines(Path.of("README.md"));
        boolean isExample = false;
        for (String line : lines) {
            if (line.startsWith("```")) {
                isExample = line.equals("```java");
                x = null;
            } else if (isExample) {
                example(line);
            }
        }
        for (Method m : JavaBridge.class.getMethods()) {
            if (m.getDeclaringClass() == JavaBridge.class) {
                CHECK.due("an example calls " + m.getName(), CALLED.contains(m.getName()) ? 1 : 0, 1);
            }
        }
        testsAreListed(String.join("\n", lines));
        CHECK.end();
    }

    private static void example(String line) throws IllegalAccessException {
        if (line.equals(NEW)) {
            x = new JavaBridge();
            return;
        }
        Matcher call = CALL.matcher(line);
        if (!call.matches() || x == null) {
            CHECK.due("this line is a call with its answer: " + line, 0, 1);
            return;
        }
        CALLED.add(call.group(1));
        CHECK.alike(line, answer(call.group(1), call.group(2)), call.group(3));
    }

    private static String answer(String name, String told) throws IllegalAccessException {
        String[] texts = told.isBlank() ? new String[0] : told.split(", ");
        for (Method m : JavaBridge.class.getMethods()) {
            if (m.getName().equals(name) && m.getParameterCount() == texts.length) {
                return answer(m, texts);
            }
        }
        return "no such call";
    }

    private static String answer(Method m, String[] texts) throws IllegalAccessException {
        Object[] given = new Object[texts.length];
        for (int i = 0; i < texts.length; i++) {
            long v = Long.parseLong(texts[i]);
            given[i] = m.getParameterTypes()[i] == int.class ? (Object) (int) v : (Object) v;
        }
        try {
            long got = ((Number) m.invoke(x, given)).longValue();
            return got == JavaBridge.NOTHING ? "NOTHING" : String.valueOf(got);
        } catch (InvocationTargetException e) {
            return e.getCause() instanceof ArithmeticException ? THREW : "threw " + e.getCause();
        }
    }

    private static void testsAreListed(String text) throws IOException {
        TreeSet<String> listed = new TreeSet<>();
        Matcher name = Pattern.compile("`(\\w+Test)`").matcher(text);
        while (name.find()) {
            listed.add(name.group(1));
        }
        TreeSet<String> there = new TreeSet<>();
        try (Stream<Path> files = Files.list(Path.of("src", "test", "java"))) {
            files.map(f -> f.getFileName().toString()).filter(f -> f.endsWith("Test.java"))
                .forEach(f -> there.add(f.replace(".java", "")));
        }
        CHECK.alike("the tests that are listed", listed.toString(), there.toString());
    }
}
