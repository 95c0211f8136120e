import java.lang.reflect.Constructor;
import java.lang.reflect.Field;
import java.lang.reflect.Method;
import java.lang.reflect.Modifier;
import java.util.TreeSet;

/** The public face is the document's, and nothing else can be seen (LANGUAGE.md, rules 1 and 5). */
public final class FaceTest {
    private static final String[] FACE = {
        "number(int,int,long):int", "move(int,int):int", "kind(int):int", "value(int):long", "same(int,int):int",
        "cell(int,int):long", "set(int,int,int):int", "members(int):int", "member(int,int,int):int",
        "declare(int,int,int,int,int,int,int):int", "word(int,int):int", "call(int,int,int,int,int):int",
        "row(int,int,int,int,int,int):int", "latest():int", "started(int):int",
        "share():int throws java.lang.ArithmeticException"};
    private static final Check CHECK = new Check("face");

    public static void main(String[] args) throws NoSuchFieldException {
        methods();
        Field nothing = JavaBridge.class.getDeclaredField("NOTHING");
        CHECK.due("NOTHING is a long", nothing.getType() == long.class ? 1 : 0, 1);
        CHECK.due("NOTHING is public, static and final", nothing.getModifiers(),
            Modifier.PUBLIC | Modifier.STATIC | Modifier.FINAL);
        fields(JavaBridge.class);
        CHECK.due("NOTHING", JavaBridge.NOTHING, Long.MIN_VALUE);
        Constructor<?>[] constructors = JavaBridge.class.getDeclaredConstructors();
        CHECK.due("one constructor", constructors.length, 1);
        CHECK.due("it is public", constructors[0].getModifiers(), Modifier.PUBLIC);
        CHECK.due("it takes nothing", constructors[0].getParameterCount(), 0);
        CHECK.due("public and final", JavaBridge.class.getModifiers(), Modifier.PUBLIC | Modifier.FINAL);
        for (Class<?> inside : JavaBridge.class.getDeclaredClasses()) {
            CHECK.due(inside + " is static", Modifier.isStatic(inside.getModifiers()) ? 1 : 0, 1);
            CHECK.due(inside + " is public", Modifier.isPublic(inside.getModifiers()) ? 1 : 0, 0);
            fields(inside);
        }
        CHECK.due("at most twelve classes", JavaBridge.class.getDeclaredClasses().length < 12 ? 1 : 0, 1);
        CHECK.end();
    }

    private static void methods() {
        TreeSet<String> open = new TreeSet<>();
        TreeSet<String> hiddenNames = new TreeSet<>();
        TreeSet<String> openNames = new TreeSet<>();
        for (Method m : JavaBridge.class.getDeclaredMethods()) {
            if (Modifier.isPrivate(m.getModifiers())) {
                hiddenNames.add(m.getName());
            } else {
                open.add(signature(m));
                openNames.add(m.getName());
            }
        }
        CHECK.due("methods " + open, open.equals(new TreeSet<>(java.util.List.of(FACE))) ? 1 : 0, 1);
        hiddenNames.retainAll(openNames);
        CHECK.due("private names of public methods " + hiddenNames, hiddenNames.size(), 0);
    }

    private static String signature(Method m) {
        StringBuilder text = new StringBuilder(m.getName()).append('(');
        for (Class<?> p : m.getParameterTypes()) {
            text.append(text.charAt(text.length() - 1) == '(' ? "" : ",").append(p.getName());
        }
        text.append("):").append(m.getReturnType().getName());
        for (Class<?> e : m.getExceptionTypes()) {
            text.append(" throws ").append(e.getName());
        }
        return text.append(Modifier.isStatic(m.getModifiers()) ? " static" : "").toString();
    }

    private static void fields(Class<?> c) {
        for (Field f : c.getDeclaredFields()) {
            int how = f.getModifiers();
            if (c == JavaBridge.class) {
                boolean isNothing = f.getName().equals("NOTHING");
                CHECK.due(f + " is private", Modifier.isPrivate(how) ? 1 : 0, isNothing ? 0 : 1);
            }
            if (Modifier.isStatic(how)) {
                Class<?> t = f.getType();
                boolean isAllowed = t == int.class || t == long.class || t == int[].class;
                CHECK.due(f + " is a constant", Modifier.isFinal(how) && isAllowed ? 1 : 0, 1);
            }
        }
    }
}
