import java.util.HashSet;
import java.util.LinkedHashSet;
import java.util.List;
import java.util.Set;

/** Keeps the sentence of the document that is tested, and tells in the end which ones were not. */
final class Terms {
    final Check check;
    private final Set<String> named = new HashSet<>();
    private String sentence = "";

    Terms(Check check) {
        this.check = check;
    }

    void says(String words) {
        sentence = words;
        named.add(words);
    }

    void due(String what, Object want, Check.Call call) {
        check.due("\"" + sentence + "\": " + what, want, call);
    }

    void refused(String what, String exception, Check.Call call) {
        due(what, "throws." + exception, call);
    }

    /** Both ways to the value of a contract. */
    void value(String what, Numeraire x, int contract, int day, int level, long want) {
        due("value of " + what + " on " + day + " at " + level, want, () -> x.value(contract, day, level));
        due("valueAnew of " + what + " on " + day + " at " + level, want, () -> x.valueAnew(contract, day, level));
    }

    /** Each of these sentences was tested, and no words that are not there. */
    void allAreNamed(List<String> sentences) {
        check.due("sentences are found", true, () -> !sentences.isEmpty());
        Set<String> left = new HashSet<>(named);
        for (String words : new LinkedHashSet<>(sentences)) {
            check.due("\"" + words + "\" is tested", true, () -> left.remove(words));
        }
        check.due("words that the document does not say", "[]", left::toString);
    }
}
