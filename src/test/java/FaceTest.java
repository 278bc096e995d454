import java.lang.reflect.Constructor;
import java.lang.reflect.Method;
import java.lang.reflect.Modifier;
import java.util.Arrays;
import java.util.TreeSet;

/** The public face is that of the document, and nothing more can be seen. */
public final class FaceTest {
    private static final String[] METHODS = {
        "long setUnit(int,int,int)", "long worth(int,int,int)", "int one(int)", "int turned(char,int)", "int both(char,int,int)",
        "int scaled(int,int)", "int either(int,int,int)", "int timed(char,int,int)", "char kindOf(int)", "int depthOf(int)",
        "long value(int,int,int)", "long valueAnew(int,int,int)", "double price(int)", "int acquire(int,int,int)", "int items()",
        "int contractOf(int)", "int holderOf(int)", "int otherOf(int)", "long factorOf(int)", "int choose(int,boolean)",
        "int use(int)", "int assign(int,int)", "int next(boolean)", "int close(int)", "long amount(int,int)", "long wealth(int)",
        "int moves()", "int now()", "float openShare()", "boolean isSound()"};

    public static void main(String[] args) {
        Check check = new Check("FaceTest");
        check.due("modifiers of the class", "public final", () -> Modifier.toString(Numeraire.class.getModifiers()));
        check.due("public methods", new TreeSet<>(Arrays.asList(METHODS)), FaceTest::seenMethods);
        check.due("public constructors", "[public Numeraire()]", () -> Arrays.toString(Numeraire.class.getConstructors()));
        check.due("constructors", 1, () -> constructorsOf().length);
        check.due("fields that can be seen", 0, FaceTest::seenFields);
        check.due("classes that are not static", 0, FaceTest::innerClasses);
        check.due("private methods with a public one's name", 0, FaceTest::namesakes);
        check.end();
    }

    private static Constructor<?>[] constructorsOf() {
        return Numeraire.class.getDeclaredConstructors();
    }

    private static TreeSet<String> seenMethods() {
        TreeSet<String> seen = new TreeSet<>();
        for (Method method : Numeraire.class.getDeclaredMethods()) {
            if (!Modifier.isPrivate(method.getModifiers()) && !method.isSynthetic()) {
                StringBuilder text = new StringBuilder();
                for (Class<?> type : method.getParameterTypes()) {
                    text.append(text.length() == 0 ? "" : ",").append(type.getName());
                }
                seen.add(method.getReturnType().getName() + " " + method.getName() + "(" + text + ")");
            }
        }
        return seen;
    }

    private static long seenFields() {
        return Arrays.stream(Numeraire.class.getDeclaredFields()).filter(f -> !Modifier.isPrivate(f.getModifiers())).count();
    }

    private static long innerClasses() {
        return Arrays.stream(Numeraire.class.getDeclaredClasses()).filter(c -> !Modifier.isStatic(c.getModifiers())).count();
    }

    private static long namesakes() {
        TreeSet<String> names = new TreeSet<>();
        for (String method : METHODS) {
            names.add(method.substring(method.indexOf(' ') + 1, method.indexOf('(')));
        }
        return Arrays.stream(Numeraire.class.getDeclaredMethods())
            .filter(m -> Modifier.isPrivate(m.getModifiers()) && names.contains(m.getName())).count();
    }
}
