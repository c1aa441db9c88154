import java.io.IOException;
import java.nio.file.Files;
import java.nio.file.Path;
import java.util.regex.Matcher;
import java.util.regex.Pattern;

/** What of the rules of the language can be seen by looking at the source; run from the project's folder. */
public final class LanguageTest {
    private static final Check CHECK = new Check("LanguageTest");
    private static final String[] BARRED = {
        "\\bthrow\\b", "\\btry\\b", "\\bcatch\\b", "\\bsynchronized\\b", "\\bassert\\b", "\\bimport\\b", "\\bpackage\\b", "->", "::",
        "\\bSystem\\.(?!arraycopy\\b)", "\\bMath\\.(?!max\\b|min\\b|abs\\b)", "\\bExact\\b", "\\bThread\\b", "\\bRandom\\b", "\\bprotected\\b",
        "\\bhashCode\\b", "\\btoString\\b", "\\bObject\\b", "\\bstatic\\s*\\{", "\\bString\\.", "\\bvar\\b", "\\byield\\b",
    };
    private static final int LONGEST_METHOD = 60, MOST_PARAMETERS = 7, MOST_CLASSES = 12;

    public static void main(String[] args) throws IOException {
        String source = Files.readString(Path.of("src/main/java/FaultDesk.java"));
        CHECK.holds("signs 1 to 127 alone", source.chars().allMatch(sign -> sign > 0 && sign < 128));
        String code = source.replaceAll("(?s)/\\*.*?\\*/", "").replaceAll("//[^\n]*", "").replaceAll("\"[^\"\n]*\"", "\"\"");
        for (String barred : BARRED) {
            Matcher matcher = Pattern.compile(barred).matcher(code);
            CHECK.holds("no " + barred, !matcher.find());
        }
        Matcher classes = Pattern.compile("\\b(class|interface|enum|record) \\w+").matcher(code);
        CHECK.holds("some twelve classes", classes.results().count() <= MOST_CLASSES);
        methods(source);
        CHECK.end();
    }

    private static void methods(String source) {
        String[] lines = source.split("\n");
        Pattern head = Pattern.compile("( {4}| {8})[\\w\\[\\]]+( [\\w\\[\\]]+)*\\(([^()]*)\\) \\{");
        int found = 0;
        for (int i = 0; i < lines.length; i++) {
            Matcher matcher = head.matcher(lines[i]);
            if (matcher.matches() && !lines[i].strip().startsWith("if") && !lines[i].strip().startsWith("for")) {
                found++;
                int end = i;
                while (!lines[end].equals(matcher.group(1) + "}")) {
                    end++;
                }
                CHECK.holds(lines[i].strip() + " is short", end - i < LONGEST_METHOD);
                CHECK.holds(lines[i].strip() + " takes seven at most", matcher.group(3).split(",").length <= MOST_PARAMETERS);
            }
        }
        CHECK.holds("methods were found", found > 60);
    }
}
