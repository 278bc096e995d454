import java.lang.reflect.Method;
import java.lang.reflect.Modifier;
import java.nio.file.Path;
import java.util.ArrayList;
import java.util.Arrays;
import java.util.List;
import java.util.Set;
import java.util.TreeSet;
import java.util.regex.Matcher;
import java.util.regex.Pattern;

/** The public face is that of the document, word by word and in its order, and nothing more can be seen. */
public final class FaceTest {
    private static final int METHODS = 30;

    private final Check check = new Check("FaceTest");
    private final Document document = new Document();
    private final List<String> face = document.face();
    private final String program = Document.read(Path.of("src/main/java/Numeraire.java"));

    private FaceTest() {
    }

    public static void main(String[] args) {
        FaceTest test = new FaceTest();
        test.asWritten();
        test.asCompiled();
        test.nothingMore();
        test.check.end();
    }

    /** The program's own lines: parameters by their names, and exceptions in their order. */
    private void asWritten() {
        check.due("the class, its constructor and its methods in the document", METHODS + 2, face::size);
        for (String line : face) {
            check.due("how often the program says " + line, 1, () -> timesOf(line + " {"));
        }
        List<String> promised = document.promised();
        check.due("promises", METHODS + 1, promised::size);
        for (int i = 0; i < promised.size(); i++) {
            String signature = "public " + promised.get(i);
            String inFace = face.get(1 + i);
            check.due("promise " + (i + 1), inFace, () -> signature);
        }
        check.due("the calls in their order, with what is said ahead of them", document.order(), this::orderOfProgram);
    }

    private int timesOf(String words) {
        int times = 0;
        for (String line : program.split("\n")) {
            if (Document.plain(line).equals(words)) {
                times++;
            }
        }
        return times;
    }

    private List<String> orderOfProgram() {
        Set<String> said = new TreeSet<>(document.order());
        List<String> order = new ArrayList<>();
        Matcher line = Pattern.compile("(?m)^    (// .*)$|^    public [a-z]+ (\\w+)\\(").matcher(program);
        while (line.find()) {
            if (line.group(2) != null) {
                order.add(line.group(2));
            } else if (said.contains(line.group(1))) {
                order.add(line.group(1));
            }
        }
        return order;
    }

    /** What one who calls the class sees. */
    private void asCompiled() {
        check.due("modifiers of the class", "public final", () -> Modifier.toString(Numeraire.class.getModifiers()));
        check.due("its package", "", () -> Numeraire.class.getPackageName());
        check.due("above it", Object.class, Numeraire.class::getSuperclass);
        check.due("interfaces of it", 0, () -> Numeraire.class.getInterfaces().length);
        check.due("constructors", "[public Numeraire()]", () -> Arrays.toString(Numeraire.class.getDeclaredConstructors()));
        Set<String> wanted = new TreeSet<>();
        for (String line : face.subList(2, face.size())) {
            int from = line.indexOf('(');
            wanted.add(line.substring(0, from) + line.substring(from).replaceAll("\\b(int|char|boolean) \\w+", "$1"));
        }
        check.due("methods", wanted, this::seenMethods);
    }

    private Set<String> seenMethods() {
        Set<String> seen = new TreeSet<>();
        for (Method method : Numeraire.class.getDeclaredMethods()) {
            if (!Modifier.isPrivate(method.getModifiers()) && !method.isSynthetic()) {
                String name = Modifier.toString(method.getModifiers()) + " " + method.getReturnType().getName() + " " + method.getName();
                String thrown = namesOf(method.getExceptionTypes());
                seen.add(name + "(" + namesOf(method.getParameterTypes()) + ")" + (thrown.isEmpty() ? "" : " throws " + thrown));
            }
        }
        return seen;
    }

    private static String namesOf(Class<?>[] types) {
        StringBuilder names = new StringBuilder();
        for (Class<?> type : types) {
            names.append(names.length() == 0 ? "" : ", ").append(type.getSimpleName());
        }
        return names.toString();
    }

    private void nothingMore() {
        check.due("fields that can be seen", 0L,
            () -> Arrays.stream(Numeraire.class.getDeclaredFields()).filter(f -> !Modifier.isPrivate(f.getModifiers())).count());
        check.due("classes that are not private and static", 0L,
            () -> Arrays.stream(Numeraire.class.getDeclaredClasses()).filter(c -> !Modifier.toString(c.getModifiers()).contains("private static")).count());
        Set<String> names = new TreeSet<>(document.order());
        check.due("private methods with a public one's name", 0L, () -> Arrays.stream(Numeraire.class.getDeclaredMethods())
            .filter(m -> Modifier.isPrivate(m.getModifiers()) && names.contains(m.getName())).count());
    }
}
