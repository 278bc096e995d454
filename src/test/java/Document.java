import java.io.IOException;
import java.io.UncheckedIOException;
import java.nio.charset.StandardCharsets;
import java.nio.file.Files;
import java.nio.file.Path;
import java.util.ArrayList;
import java.util.List;
import java.util.Set;
import java.util.regex.Matcher;
import java.util.regex.Pattern;

/** The document, in those parts along which tests go; words stand with one blank between them. */
final class Document {
    private static final Set<String> TITLES = Set.of("Days and levels.", "Units.", "Contracts.", "Values.", "Ledger.", "Items.", "Next day.", "Closing.",
        "Exceptions.", "Clarifications.");

    private final String text;

    Document() {
        text = read(Path.of("../shared/DOC.md"));
    }

    static String read(Path file) {
        try {
            return Files.readString(file, StandardCharsets.UTF_8);
        } catch (IOException e) {
            throw new UncheckedIOException(e);
        }
    }

    static String plain(String words) {
        return words.trim().replaceAll("\\s+", " ");
    }

    private String between(String from, String to) {
        int start = text.indexOf(from);
        int end = start < 0 ? -1 : text.indexOf(to, start + from.length());
        if (start < 0 || end < 0) {
            throw new IllegalStateException("the document has no \"" + from + "\" with a \"" + to + "\" behind it");
        }
        return text.substring(start + from.length(), end);
    }

    /** The class and what stands in it, each without its last character, which is ; or { in a program. */
    List<String> face() {
        List<String> lines = new ArrayList<>();
        for (String line : between("```java", "```").split("\n")) {
            if (line.trim().startsWith("public")) {
                lines.add(plain(line.trim().replaceAll("[;{]$", "")));
            }
        }
        return lines;
    }

    /** Each call's signature as its promise tells it, without "public". */
    List<String> promised() {
        List<String> signatures = new ArrayList<>();
        Matcher found = Pattern.compile("(?m)^## Promise \\d+: .*\\s+`([^`]+)`: ").matcher(text);
        while (found.find()) {
            signatures.add(plain(found.group(1)));
        }
        return signatures;
    }

    /** What the interface says ahead of its calls, each time with these calls behind it. */
    List<String> order() {
        List<String> order = new ArrayList<>();
        Matcher found = Pattern.compile("Ahead of the calls ([^\n]*) the interface says: ([^\n]*)\\.").matcher(text);
        while (found.find()) {
            order.add("// " + found.group(2));
            for (String call : found.group(1).split(", ")) {
                order.add(call.replace("`", ""));
            }
        }
        return order;
    }

    /** The sentences of "Terms". */
    List<String> terms() {
        List<String> sentences = new ArrayList<>();
        for (String each : between("## Terms", "Ahead of the calls").trim().split("(?<=\\.)\\s+")) {
            String words = plain(each);
            if (!TITLES.contains(words)) {
                sentences.add(words);
            }
        }
        return sentences;
    }

    /** What the promises say of each call, of its parameters, of what it returns and throws, behind the promise's number. */
    List<String> promises() {
        List<String> sentences = new ArrayList<>();
        String all = "## Promise " + between("## Promise ", "## Not promised");
        for (String promise : all.split("(?m)^## Promise ")) {
            if (!promise.isBlank()) {
                String number = promise.substring(0, promise.indexOf(':'));
                for (String part : promise.substring(promise.indexOf('\n')).trim().split("\n\\s*\n|\n(?=- )")) {
                    sentences.add(number + " " + plain(part).replaceFirst("^`[^`]*\\([^`]*`: |^- ", ""));
                }
            }
        }
        return sentences;
    }
}
