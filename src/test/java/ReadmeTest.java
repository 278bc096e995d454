import java.io.IOException;
import java.io.StringWriter;
import java.lang.reflect.InvocationTargetException;
import java.net.URL;
import java.net.URLClassLoader;
import java.nio.file.Files;
import java.nio.file.Path;
import java.util.ArrayList;
import java.util.List;
import java.util.Set;
import java.util.TreeSet;
import java.util.function.BiConsumer;
import java.util.regex.Matcher;
import java.util.regex.Pattern;
import java.util.stream.Stream;
import javax.tools.JavaCompiler;
import javax.tools.ToolProvider;

/** That the blocks of README.md, one behind the other, compile as they stand there and answer what their comments say. */
public final class ReadmeTest {
    private static final Pattern BLOCK = Pattern.compile("(?ms)^```java$\\n(.*?)^```$");
    /** A call, what it is kept as, and what the comment behind it says that it answers. */
    private static final Pattern LINE = Pattern.compile("^(?:(?:int|long) (\\w+) = )?(\\w+\\..*\\));\\s*// ([^:]+): .*$");
    /** A row of the table of kinds: the kind, and the calls that make it. */
    private static final Pattern ROW = Pattern.compile("(?m)^\\| `(\\w)` \\| (`[^|]+`) \\| [^|]+ \\|$");

    private final Check check = new Check("ReadmeTest");
    private final String readme = Document.read(Path.of("README.md"));
    private final List<String> lines = new ArrayList<>();

    private ReadmeTest() {
    }

    public static void main(String[] args) throws IOException, ReflectiveOperationException {
        ReadmeTest test = new ReadmeTest();
        test.readBlocks();
        Path build = Files.createTempDirectory("readme");
        try {
            test.compilesAsItStands(build);
            test.answersAsItSays(build);
            test.makesTheKindsAsItSays(build);
        } finally {
            remove(build);
        }
        test.showsEachCall();
        test.namesEachTest();
        test.check.end();
    }

    private static void remove(Path directory) throws IOException {
        try (Stream<Path> files = Files.list(directory)) {
            for (Path file : files.toList()) {
                Files.delete(file);
            }
        }
        Files.delete(directory);
    }

    private void readBlocks() {
        Matcher block = BLOCK.matcher(readme);
        while (block.find()) {
            lines.addAll(block.group(1).lines().toList());
        }
        check.due("blocks are found", true, () -> lines.size() > 30);
    }

    private void compilesAsItStands(Path build) throws IOException {
        String all = String.join("\n", lines);
        String program = "public final class AsItStands {\n    public static void main(String[] args) {\n" + all + "\n    }\n}\n";
        check.same("as it stands", "", compiled(build, "AsItStands", program));
    }

    private void answersAsItSays(Path build) throws IOException, ReflectiveOperationException {
        StringBuilder program = new StringBuilder();
        int said = 0;
        for (int i = 0; i < lines.size(); i++) {
            Matcher line = LINE.matcher(lines.get(i));
            if (!line.matches()) {
                program.append(lines.get(i)).append('\n');
            } else if (line.group(1) == null) {
                said++;
                program.append("told.accept(\"").append(i).append("\", String.valueOf(").append(line.group(2)).append("));\n");
            } else {
                said++;
                program.append(lines.get(i)).append("\ntold.accept(\"").append(i).append("\", String.valueOf(").append(line.group(1)).append("));\n");
            }
        }
        List<String> answered = new ArrayList<>();
        tell(build, "AsItSays", program.toString(), (place, answer) -> {
            String line = lines.get(Integer.parseInt(place));
            Matcher parts = LINE.matcher(line);
            check.same(line, parts.matches() ? parts.group(3) : "nothing", answer);
            answered.add(line);
        });
        check.due("answers", said, answered::size);
        check.due("calls whose comment says no answer", "[]", () -> silent().toString());
    }

    private void makesTheKindsAsItSays(Path build) throws IOException, ReflectiveOperationException {
        StringBuilder program = new StringBuilder("Numeraire x = new Numeraire();\n"
            + "int part = x.one(0), first = part, second = part, number = 2, level = 3, day = 4;\n");
        StringBuilder kinds = new StringBuilder();
        Matcher row = ROW.matcher(readme);
        while (row.find()) {
            kinds.append(row.group(1));
            for (String call : row.group(2).split(", (?=`)")) {
                program.append("told.accept(\"").append(row.group(1)).append("\", x.kindOf(x.").append(call.replace("`", "")).append(") + \"\");\n");
            }
        }
        check.same("the kinds in the table", "ozglbesiwua", kinds.toString());
        List<String> answered = new ArrayList<>();
        tell(build, "TheKinds", program.toString(), (kind, answer) -> {
            check.same("what makes " + kind, kind, answer);
            answered.add(kind);
        });
        check.due("kinds that were made", 13, answered::size);
    }

    /** Compiles statements that tell what they answer, and runs them. */
    private void tell(Path build, String name, String statements, BiConsumer<String, String> told) throws IOException, ReflectiveOperationException {
        String teller = "java.util.function.BiConsumer<String, String>";
        String program = "public final class " + name + " {\n    public static void tell(" + teller + " told) {\n" + statements + "    }\n}\n";
        String faults = compiled(build, name, program);
        check.same(name, "", faults);
        if (faults.isEmpty()) {
            try (URLClassLoader loader = new URLClassLoader(new URL[] {build.toUri().toURL()}, ReadmeTest.class.getClassLoader())) {
                loader.loadClass(name).getMethod("tell", BiConsumer.class).invoke(null, told);
            } catch (InvocationTargetException e) {
                check.same(name, "an end", "throws " + e.getCause());
            }
        }
    }

    /** Calls that stand by themselves without an answer; those inside of try may throw. */
    private List<String> silent() {
        return lines.stream().filter(line -> line.matches("^(\\w+ \\w+ = )?x\\..*") && !LINE.matcher(line).matches()).toList();
    }

    /** What the compiler says; nothing if it has no fault to tell. */
    private static String compiled(Path build, String name, String program) throws IOException {
        JavaCompiler compiler = ToolProvider.getSystemJavaCompiler();
        if (compiler == null) {
            return "java has no compiler; it must be the java of the javac that .ci/run calls";
        }
        Path file = build.resolve(name + ".java");
        Files.writeString(file, program);
        StringWriter said = new StringWriter();
        String path = System.getProperty("java.class.path");
        List<String> options = List.of("-d", build.toString(), "-cp", path);
        boolean isRight = compiler.getTask(said, null, null, options, null, compiler.getStandardFileManager(null, null, null).getJavaFileObjects(file)).call();
        return isRight ? "" : "faults: " + said;
    }

    private void showsEachCall() {
        Set<String> calls = new TreeSet<>(new Document().order());
        calls.removeIf(call -> call.startsWith("//"));
        check.due("the calls of the document", 30, calls::size);
        for (String call : calls) {
            check.due(call + " is shown", true, () -> lines.stream().anyMatch(line -> line.contains("x." + call + "(")));
        }
    }

    private void namesEachTest() throws IOException {
        try (Stream<Path> files = Files.list(Path.of("src/test/java"))) {
            for (Path file : files.toList()) {
                String name = file.getFileName().toString().replace(".java", "");
                if (name.endsWith("Test")) {
                    check.due(name + " is told of", true, () -> readme.contains("\n- `" + name + "`: "));
                }
            }
        }
        Matcher told = Pattern.compile("\n- `(\\w+)`: ").matcher(readme);
        while (told.find()) {
            String name = told.group(1);
            check.due(name + " is there", true, () -> Files.exists(Path.of("src/test/java/" + name + ".java")));
        }
        check.due(".ci/run can be run", true, () -> readme.contains("\n    .ci/run\n") && Files.isExecutable(Path.of(".ci/run")));
    }
}
