import java.io.IOException;
import java.lang.reflect.Field;
import java.lang.reflect.Method;
import java.lang.reflect.Modifier;
import java.nio.file.Files;
import java.nio.file.Path;
import java.util.ArrayList;
import java.util.List;
import java.util.Set;
import java.util.regex.Matcher;
import java.util.regex.Pattern;

/** The class's text against those rules of LANGUAGE.md that a text shows, and what the document says of its order. */
public final class LanguageTest {
    private static final Path SOURCE = Path.of("src", "main", "java", "JavaBridge.java");
    private static final String[] PLACES = {"number", "move", "kind", "value", "same", "cell", "set"};
    private static final String[] WORDS = {"members", "member", "declare", "word", "call", "row", "latest", "started",
        "share"};
    private static final Set<String> LIBRARY = Set.of("Long.MIN_VALUE", "Math.min", "Math.max", "System.arraycopy");
    private static final Set<String> OF_JAVA = Set.of("ArithmeticException", "Long", "Math", "System");
    private static final int MOST_LINES = 60;
    private static final int MOST_FIELDS = 20;
    private static final int MOST_PARAMETERS = 7;
    private static final Check CHECK = new Check("language");

    public static void main(String[] args) throws IOException {
        String source = Files.readString(SOURCE);
        String code = withoutComments(source);
        interfaceOrder(source);
        CHECK.due("rule 3: signs 1 to 127", source.chars().allMatch(c -> c > 0 && c < 128) ? 1 : 0, 1);
        none(code, "rule 1: a package, an import", "\\b(package|import)\\b");
        none(code, "rule 2: a lambda, a method reference", "->|::");
        none(code, "rule 3: rows of rows", "\\]\\s*\\[");
        none(code, "rule 5: a static initialiser", "static\\s*\\{");
        none(code, "rule 6: a try", "\\b(try|catch|finally|synchronized|assert)\\b");
        none(code, "rule 6: a throw of something else", "\\bthrow\\b(?! new ArithmeticException\\(\"[ -~]*\"\\);)");
        none(code, "rule 6: which object it is", "\\b(equals|hashCode|toString|getClass)\\b");
        none(code, "rule 6: a cast of an object", "\\((Thing|Cell|Twice|Shelf|Ints|Held|Word|Maker|Object)\\)\\s*\\w");
        none(code, "rule 9: a loop whose end is not seen", "for\\s*\\(\\s*;|;\\s*;|\\bwhile\\b");
        none(code, "rule 13: a clock, chance, the machine", "\\b(Random|random|Thread|currentTimeMillis|nanoTime)\\b");
        library(code);
        lengths(code);
        members(JavaBridge.class);
        for (Class<?> inside : JavaBridge.class.getDeclaredClasses()) {
            members(inside);
        }
        CHECK.end();
    }

    private static String withoutComments(String source) {
        return source.replaceAll("(?s)/\\*.*?\\*/", "").replaceAll("//[^\n]*", "");
    }

    /** "Ahead of the calls .. the interface says: ---- places", likewise of words. */
    private static void interfaceOrder(String source) {
        List<String> order = new ArrayList<>();
        Matcher m = Pattern.compile("---- \\w+|public (?:int|long) (\\w+)\\(").matcher(source);
        while (m.find()) {
            order.add(m.group(1) == null ? m.group() : m.group(1));
        }
        List<String> due = new ArrayList<>(List.of("---- places"));
        due.addAll(List.of(PLACES));
        due.add("---- words");
        due.addAll(List.of(WORDS));
        CHECK.alike("the order of the face", order.toString(), due.toString());
    }

    private static void none(String code, String what, String pattern) {
        Matcher m = Pattern.compile(pattern).matcher(code);
        CHECK.alike(what, m.find() ? m.group() : "none", "none");
    }

    private static void library(String code) {
        Matcher member = Pattern.compile("\\b([A-Z]\\w*[a-z]\\w*)\\.(\\w+)").matcher(code);
        while (member.find()) {
            CHECK.due("rule 4: " + member.group(), LIBRARY.contains(member.group()) ? 1 : 0, 1);
        }
        Matcher name = Pattern.compile("\\b[A-Z]\\w*[a-z]\\w*\\b").matcher(code.replaceAll("\"[^\"]*\"", ""));
        while (name.find()) {
            CHECK.due("rule 4: " + name.group(), OF_JAVA.contains(name.group()) || isOwn(name.group()) ? 1 : 0, 1);
        }
    }

    private static boolean isOwn(String name) {
        boolean isOwn = name.equals("JavaBridge");
        for (Class<?> inside : JavaBridge.class.getDeclaredClasses()) {
            isOwn |= inside.getSimpleName().equals(name);
        }
        return isOwn;
    }

    /** A method begins with a line that ends in "{" and holds its parameters, and ends with a "}" as far in. */
    private static void lengths(String code) {
        Pattern head = Pattern.compile("( {4,8})(?:[a-z]+ )*[A-Za-z\\[\\]]* ?\\w+\\([^;]*\\)(?: throws \\w+)? \\{");
        String[] lines = code.split("\n");
        int seen = 0;
        for (int i = 0; i < lines.length; i++) {
            Matcher m = head.matcher(lines[i]);
            if (m.matches() && !lines[i].strip().matches("(if|for|switch|while) .*")) {
                int end = i;
                while (end < lines.length && !lines[end].equals(m.group(1) + "}")) {
                    end++;
                }
                seen++;
                CHECK.due("rule 11: short: " + lines[i].strip(), end - i < MOST_LINES ? 1 : 0, 1);
            }
        }
        CHECK.due("methods were seen", seen > 50 ? 1 : 0, 1);
    }

    private static void members(Class<?> c) {
        int fields = 0;
        for (Field f : c.getDeclaredFields()) {
            fields += Modifier.isStatic(f.getModifiers()) ? 0 : 1;
        }
        CHECK.due("rule 11: fields of " + c.getSimpleName(), fields <= MOST_FIELDS ? 1 : 0, 1);
        for (Method m : c.getDeclaredMethods()) {
            CHECK.due("rule 11: parameters of " + m, m.getParameterCount() <= MOST_PARAMETERS ? 1 : 0, 1);
        }
    }
}
