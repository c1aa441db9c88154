import java.io.IOException;
import java.nio.file.Files;
import java.nio.file.Path;
import java.util.HashSet;
import java.util.LinkedHashMap;
import java.util.Map;
import java.util.Set;
import java.util.regex.Matcher;
import java.util.regex.Pattern;

/**
 * Runs of calls, each bound to a heading of the document and to words that stand under it, so that a
 * sentence that is taken out of the document, or told otherwise, is noticed. Run from the project's folder.
 */
final class Sentences {
    private static final Path DOCUMENT = Path.of("../shared/DOC.md");
    private static final Pattern PROMISE = Pattern.compile("(Promise \\d+): .*");
    private static final Pattern CALL = Pattern.compile("`\\w+ (\\w+)\\(");
    private static final Pattern REFUSAL = Pattern.compile("\\b(NONE|UNKNOWN|OUTSIDE|NOT|OVER|NULL|EMPTY|CAST|ROOM)\\b");
    private static final int PROMISES = 29;

    private final Check check;
    private final Map<String, String> sections = new LinkedHashMap<>();
    private final Set<String> quoted = new HashSet<>();
    private final Set<String> answered = new HashSet<>();

    Sentences(Check check) throws IOException {
        this.check = check;
        String heading = "";
        for (String line : Files.readAllLines(DOCUMENT)) {
            if (line.startsWith("## ")) {
                Matcher promise = PROMISE.matcher(line.substring(3));
                heading = promise.matches() ? promise.group(1) : line.substring(3);
            } else {
                sections.merge(heading, " " + line.strip(), String::concat);
            }
        }
        sections.replaceAll((name, words) -> plain(words));
    }

    private static String plain(String words) {
        return words.replaceAll("\\s+", " ").strip();
    }

    /** The words stand under the heading, and the lines (see Script) are answered as due. */
    void hold(String heading, String words, String lines) {
        check.holds(heading + " says: " + words, sections.getOrDefault(heading, "").contains(plain(words)));
        quoted.add(heading);
        Script.run(check, heading + ", \"" + words + "\": ", answered, lines);
    }

    /** Each promise was quoted, and each refusal that it names was due at least once for its call. */
    void askWhetherAllWereHeld() {
        for (int i = 1; i <= PROMISES; i++) {
            String heading = "Promise " + i;
            check.holds(heading + " is held", quoted.contains(heading));
            String words = sections.getOrDefault(heading, "");
            Matcher call = CALL.matcher(words);
            Matcher refusal = REFUSAL.matcher(words);
            String name = call.find() ? call.group(1) : "";
            while (refusal.find()) {
                check.holds(heading + ": " + name + " is asked for " + refusal.group(), answered.contains(name + " " + refusal.group()));
            }
        }
    }
}
