import java.io.IOException;
import java.nio.file.Files;
import java.nio.file.Path;
import java.util.LinkedHashMap;
import java.util.List;
import java.util.Map;
import java.util.Set;
import java.util.regex.Matcher;
import java.util.regex.Pattern;

/** The document by its headings, "Promise 2" being short for "Promise 2: write"; run from the project's folder. */
final class Document {
    private static final Path PLACE = Path.of("../shared/DOC.md");
    private static final Pattern PROMISE = Pattern.compile("(Promise \\d+): .*");

    private final Map<String, String> sections = new LinkedHashMap<>();
    private final List<String> lines;

    Document() throws IOException {
        lines = Files.readAllLines(PLACE);
        String heading = "";
        for (String line : lines) {
            if (line.startsWith("## ")) {
                Matcher promise = PROMISE.matcher(line.substring(3));
                heading = promise.matches() ? promise.group(1) : line.substring(3);
            } else if (!line.startsWith("# ")) {
                sections.merge(heading, " " + line.strip(), String::concat);
            }
        }
        sections.replaceAll((name, words) -> plain(words));
    }

    static String plain(String words) {
        return words.replaceAll("\\s+", " ").strip();
    }

    Set<String> headings() {
        return sections.keySet();
    }

    String section(String heading) {
        return sections.getOrDefault(heading, "");
    }

    /** The lines of the public face, "public int erase();" and the like. */
    List<String> face() {
        return lines.stream().map(String::strip).filter(line -> line.startsWith("public ") && line.endsWith(";")).toList();
    }
}
