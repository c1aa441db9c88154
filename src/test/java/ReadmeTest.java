import java.io.File;
import java.io.IOException;
import java.net.URL;
import java.net.URLClassLoader;
import java.nio.file.Files;
import java.nio.file.Path;
import java.util.ArrayList;
import java.util.List;
import java.util.Set;
import java.util.TreeSet;
import java.util.function.Supplier;
import java.util.regex.Matcher;
import java.util.regex.Pattern;
import java.util.stream.Collectors;
import java.util.stream.Stream;
import javax.tools.ToolProvider;

/** What README.md shows as an answer is what the class answers, and it names each call, refusal and test there is. */
public final class ReadmeTest {
    private static final Check CHECK = new Check("ReadmeTest");
    private static final Pattern BLOCK = Pattern.compile("(?s)```java\n(.*?)```");
    private static final Pattern SHOWN = Pattern.compile("(desk\\.\\w+\\(.*\\)); +// = ([\\w-]+)(: .*)?");
    private static final Pattern CALL = Pattern.compile("public \\w+ (\\w+\\(.*\\));");
    private static final Pattern CONSTANT = Pattern.compile("([A-Z]+) = (-?\\d+)");
    private static final Pattern TEST = Pattern.compile("`(\\w+Test)`");
    private static final int LEAST_BLOCKS = 4, LEAST_SHOWN = 40;

    public static void main(String[] args) throws IOException, ReflectiveOperationException {
        String page = Files.readString(Path.of("README.md"));
        answers(page);
        calls(page);
        constants(page);
        tests(page);
        CHECK.end();
    }

    // ---- what is shown as an answer

    private static void answers(String page) throws IOException, ReflectiveOperationException {
        Path folder = Files.createTempDirectory("readme");
        int blocks = 0;
        int shown = 0;
        Matcher block = BLOCK.matcher(page);
        while (block.find()) {
            blocks++;
            shown += runBlock(folder, "Block" + blocks, block.group(1));
        }
        CHECK.holds("blocks of code were found", blocks >= LEAST_BLOCKS);
        CHECK.holds("answers were found", shown >= LEAST_SHOWN);
        try (Stream<Path> files = Files.list(folder)) {
            for (Path file : files.toList()) {
                Files.delete(file);
            }
        }
        Files.delete(folder);
    }

    /** The block is compiled as it stands, but that each answer shown is held against what is answered. */
    private static int runBlock(Path folder, String name, String block) throws IOException, ReflectiveOperationException {
        StringBuilder body = new StringBuilder();
        List<String> lines = new ArrayList<>();
        List<String> due = new ArrayList<>();
        for (String line : block.split("\n")) {
            Matcher shown = SHOWN.matcher(line.strip());
            if (shown.matches()) {
                lines.add(name + ": " + line.strip());
                due.add(shown.group(2));
                body.append("answers.add((long) ").append(shown.group(1)).append(");\n");
            } else {
                CHECK.holds(name + " shows an answer: " + line, !line.startsWith("desk."));
                body.append(line).append('\n');
            }
        }
        List<Long> answers = compiled(folder, name, body.toString()).get();
        CHECK.due(name + ", how many answers", answers.size(), due.size());
        for (int i = 0; i < answers.size(); i++) {
            CHECK.due(lines.get(i), answers.get(i), valueOf(due.get(i)));
        }
        return due.size();
    }

    private static Supplier<List<Long>> compiled(Path folder, String name, String body) throws IOException, ReflectiveOperationException {
        Path file = folder.resolve(name + ".java");
        Files.writeString(file, "public final class " + name + " implements java.util.function.Supplier<java.util.List<Long>> {\n"
            + "public java.util.List<Long> get() {\njava.util.List<Long> answers = new java.util.ArrayList<>();\n" + body + "return answers;\n}\n}\n");
        String path = System.getProperty("java.class.path") + File.pathSeparator + folder;
        int code = ToolProvider.getSystemJavaCompiler().run(null, null, null, "-cp", path, "-d", folder.toString(), file.toString());
        CHECK.due(name + " is compiled", code, 0);
        try (URLClassLoader loader = new URLClassLoader(new URL[] {folder.toUri().toURL()})) {
            @SuppressWarnings("unchecked")
            Supplier<List<Long>> made = (Supplier<List<Long>>) loader.loadClass(name).getConstructor().newInstance();
            return made;
        }
    }

    private static long valueOf(String told) throws ReflectiveOperationException {
        return Character.isUpperCase(told.charAt(0)) ? FaultDesk.class.getField(told).getInt(null) : Long.parseLong(told);
    }

    // ---- what is named

    private static void calls(String page) throws IOException {
        for (String line : new Document().face()) {
            Matcher call = CALL.matcher(line);
            if (call.matches()) {
                String named = call.group(1).replaceAll("\\bint ", "");
                CHECK.holds(named + " has a row", page.contains("| `" + named + "` | "));
            }
        }
        CHECK.holds("the constructor is named", page.contains("`new FaultDesk()`"));
    }

    private static void constants(String page) throws IOException {
        for (String line : new Document().face()) {
            Matcher constant = CONSTANT.matcher(line);
            while (constant.find()) {
                String due = constant.group(1).equals("NONE") ? "`NONE`, " + constant.group(2)
                    : "| `" + constant.group(1) + "` | " + constant.group(2) + " | ";
                CHECK.holds("the page says: " + due, page.contains(due));
            }
        }
    }

    private static void tests(String page) throws IOException {
        Set<String> named = new TreeSet<>();
        Matcher test = TEST.matcher(page);
        while (test.find()) {
            named.add(test.group(1));
        }
        try (Stream<Path> files = Files.list(Path.of("src/test/java"))) {
            Set<String> found = files.map(file -> file.getFileName().toString()).filter(name -> name.endsWith("Test.java"))
                .map(name -> name.replace(".java", "")).collect(Collectors.toCollection(TreeSet::new));
            CHECK.holds("the tests named " + named + " are those that there are " + found, named.equals(found));
        }
        CHECK.holds(".ci/run can be run", page.contains("\n.ci/run\n") && Files.isExecutable(Path.of(".ci/run")));
    }
}
