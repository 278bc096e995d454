import java.io.IOException;
import java.nio.charset.StandardCharsets;
import java.nio.file.Files;
import java.nio.file.Path;
import java.util.HashSet;
import java.util.List;
import java.util.Set;

/** Keeps the sentence of the document that is tested, and tells in the end which ones were not. */
final class Terms {
    private static final List<String> TITLES = List.of("Days and levels.", "Units.", "Contracts.", "Values.", "Ledger.", "Items.", "Next day.",
        "Closing.", "Exceptions.", "Clarifications.");

    final Check check;
    private final Set<String> named = new HashSet<>();
    private String sentence = "";

    Terms(Check check) {
        this.check = check;
    }

    void says(String words) {
        sentence = words;
        named.add(words);
    }

    void due(String what, Object want, Check.Call call) {
        check.due("\"" + sentence + "\": " + what, want, call);
    }

    void refused(String what, String exception, Check.Call call) {
        due(what, "throws." + exception, call);
    }

    /** Both ways to the value of a contract. */
    void value(String what, Numeraire x, int contract, int day, int level, long want) {
        due("value of " + what + " on " + day + " at " + level, want, () -> x.value(contract, day, level));
        due("valueAnew of " + what + " on " + day + " at " + level, want, () -> x.valueAnew(contract, day, level));
    }

    /** Each sentence of "Terms" was tested, and no words that are not there. */
    void allAreNamed(Path document) throws IOException {
        String text = Files.readString(document, StandardCharsets.UTF_8);
        int from = text.indexOf("## Terms");
        int to = text.indexOf("Ahead of the calls");
        check.due("the terms are found", true, () -> from >= 0 && to > from);
        Set<String> left = new HashSet<>(named);
        for (String each : text.substring(from + "## Terms".length(), to).trim().split("(?<=\\.)\\s+")) {
            String words = each.replaceAll("\\s+", " ");
            if (!TITLES.contains(words)) {
                check.due("\"" + words + "\" is tested", true, () -> left.remove(words));
            }
        }
        check.due("words that the document does not say", "[]", left::toString);
    }
}
