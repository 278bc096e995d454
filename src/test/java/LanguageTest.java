import java.io.IOException;
import java.nio.charset.StandardCharsets;
import java.nio.file.Files;
import java.nio.file.Path;
import java.util.List;
import java.util.regex.Matcher;
import java.util.regex.Pattern;

/** Those rules of LANGUAGE.md that a look at the text of the program can tell. */
public final class LanguageTest {
    private static final List<String> FORBIDDEN = List.of(
        "\\bimport\\b", "\\bpackage\\b", "\\btry\\b", "\\bcatch\\b", "\\bfinally\\b", "->", "::", "\\bsynchronized\\b", "\\bassert\\b",
        "\\bprotected\\b", "\\binstanceof\\b", "\\bgetMessage\\b", "\\w+Exact\\b", "static\\s*\\{", "\\bString\\b", "\\bSystem\\b", "\\bnull\\b",
        "\\bequals\\b", "\\bhashCode\\b", "\\bRandom\\b", "\\bThread\\b", "\\bMath\\.(?!max\\b)", "\\bInteger\\.(?!bitCount\\b)", "\\bwhile\\b", "/ (?!\\(float\\)|\\(double\\)|//)", "%");

    private LanguageTest() {
    }

    public static void main(String[] args) throws IOException {
        String text = Files.readString(Path.of("src/main/java/Numeraire.java"), StandardCharsets.ISO_8859_1);
        String code = text.replaceAll("(?s)/\\*.*?\\*/", "").replaceAll("//[^\n]*", "").replaceAll("\"[^\"\n]*\"", "\"\"");
        Check check = new Check("LanguageTest");
        for (String word : FORBIDDEN) {
            check.due("how often " + word + " stands there", 0L, () -> Pattern.compile(word).matcher(code).results().count());
        }
        check.due("signs above 126", 0L, () -> text.chars().filter(c -> c > 126).count());
        String uses = code.replaceAll("new \\w+\\[[^\\]]*\\]", "");
        check.due("indices, those of read and write alone", 4L, () -> Pattern.compile("\\[[^\\]]+\\]").matcher(uses).results().count());
        checkMethods(check, code);
        checkObjects(check, code);
        check.end();
    }

    /** Objects are made with the ledger alone, so that no run of calls makes more of them; what is thrown is not kept. */
    private static void checkObjects(Check check, String code) {
        String left = code.replaceAll("throw new \\w+\\(\"\"\\);", "").replaceAll("(?m)^ +private final [\\w\\[\\]]+ \\w+ = new \\w+(\\[.*\\]|\\(\\));$", "");
        Matcher constructor = Pattern.compile("(?ms)^    public Numeraire\\(\\) \\{$(.*?)^    \\}$").matcher(left);
        check.due("the constructor is found", true, constructor::find);
        String calls = left.substring(0, constructor.start()) + left.substring(constructor.end());
        check.due("objects that are made by calls", 0L, () -> Pattern.compile("\\bnew\\b|\\bclone\\b").matcher(calls).results().count());
        check.due("static fields that are no constants", 0L, () -> Pattern.compile("(?m)^ +(private )?static (?!final (int|long) [A-Z_]+ = )[^(\n]*;$")
            .matcher(code).results().count());
    }

    private static void checkMethods(Check check, String code) {
        Matcher method = Pattern.compile("(?m)^( +)(?:[\\w\\[\\]]+ )+(\\w+)\\(([^)]*)\\)[^;{]*\\{$(?s)(.*?)^\\1\\}$").matcher(code);
        int methods = 0;
        while (method.find()) {
            String name = method.group(2);
            long lines = method.group(4).lines().count();
            long parameters = method.group(3).isBlank() ? 0 : method.group(3).split(",").length;
            check.due(name + " is short", true, () -> lines <= 60);
            check.due(name + " has few parameters", true, () -> parameters <= 7);
            methods++;
        }
        int found = methods;
        check.due("methods are found", true, () -> found > 60);
        check.due("classes are few", true, () -> Pattern.compile("\\bclass\\b").matcher(code).results().count() <= 12);
    }
}
