import java.util.BitSet;
import java.util.HashMap;
import java.util.HashSet;
import java.util.Map;
import java.util.Set;
import java.util.regex.Matcher;
import java.util.regex.Pattern;

/**
 * Runs of calls, each bound to a heading of the document and to words that stand under it, so that a
 * sentence that is taken out of the document, told otherwise, or added to it, is noticed.
 */
final class Sentences {
    private static final Pattern CALL = Pattern.compile("`\\w+ (\\w+)\\(");
    private static final Pattern REFUSAL = Pattern.compile("\\b(NONE|UNKNOWN|OUTSIDE|NOT|OVER|NULL|EMPTY|CAST|ROOM)\\b");
    private static final Pattern WORD = Pattern.compile("\\w+");
    // What tells nothing: the numbers of chapters, the marks of a block, and a promise's head, which is FaceTest's.
    private static final Pattern SILENT = Pattern.compile("=+ \\d|```(text)?|^`[^`]*`:");

    private final Check check;
    private final Document document;
    private final Map<String, BitSet> quoted = new HashMap<>();
    private final Set<String> answered = new HashSet<>();

    Sentences(Check check, Document document) {
        this.check = check;
        this.document = document;
    }

    Document document() {
        return document;
    }

    /** The words stand under the heading, and the lines (see Script) are answered as due. */
    void hold(String heading, String words, String lines) {
        quote(heading, words);
        Script.run(check, heading + ", \"" + words + "\": ", answered, lines);
    }

    /** The words stand under the heading, and another test looks at them, or they promise nothing. */
    void passOver(String heading, String words) {
        quote(heading, words);
    }

    private void quote(String heading, String words) {
        String section = document.section(heading);
        String plain = Document.plain(words);
        check.holds(heading + " says: " + words, !plain.isEmpty() && section.contains(plain));
        for (int at = section.indexOf(plain); at >= 0; at = section.indexOf(plain, at + 1)) {
            quotedOf(heading).set(at, at + plain.length());
        }
    }

    private BitSet quotedOf(String heading) {
        return quoted.computeIfAbsent(heading, name -> new BitSet());
    }

    /** Each word was quoted, and each refusal that a promise names was due at least once for its call. */
    void askWhetherAllWereHeld() {
        for (String heading : document.headings()) {
            allWordsOf(heading);
            if (heading.startsWith("Promise ")) {
                allRefusalsOf(heading);
            }
        }
    }

    private void allWordsOf(String heading) {
        String section = document.section(heading);
        Matcher silent = SILENT.matcher(section);
        while (silent.find()) {
            quotedOf(heading).set(silent.start(), silent.end());
        }
        Matcher word = WORD.matcher(section);
        while (word.find()) {
            boolean isQuoted = quotedOf(heading).nextClearBit(word.start()) >= word.end();
            String around = section.substring(word.start(), Math.min(section.length(), word.end() + 40));
            check.holds(heading + " has no run for: " + around, isQuoted);
        }
    }

    private void allRefusalsOf(String heading) {
        String section = document.section(heading);
        Matcher call = CALL.matcher(section);
        Matcher refusal = REFUSAL.matcher(section);
        String name = call.find() ? call.group(1) : "";
        while (refusal.find()) {
            check.holds(heading + ": " + name + " is asked for " + refusal.group(), answered.contains(name + " " + refusal.group()));
        }
    }
}
