import java.io.IOException;
import java.lang.reflect.Constructor;
import java.lang.reflect.Field;
import java.lang.reflect.Member;
import java.lang.reflect.Method;
import java.lang.reflect.Modifier;
import java.nio.file.Files;
import java.nio.file.Path;
import java.util.ArrayList;
import java.util.Arrays;
import java.util.List;
import java.util.Set;
import java.util.TreeMap;
import java.util.TreeSet;
import java.util.regex.Matcher;
import java.util.regex.Pattern;
import java.util.stream.Collectors;

/** The public face is the document's, to the letter, and nothing but it can be seen from outside. */
public final class FaceTest {
    private static final Check CHECK = new Check("FaceTest");
    private static final Pattern METHOD = Pattern.compile("public (int|long) (\\w+)\\((.*)\\);");
    private static final Pattern CONSTANT = Pattern.compile("(\\w+) = (-?\\d+)");
    private static final Pattern GROUP = Pattern.compile("Ahead of the calls (.*?) the interface says: ---- ([a-z ]+)\\.");
    private static final Pattern HEAD = Pattern.compile("^`([^`]*)`:");
    private static final int CALLS = 28, CONSTANTS = 9;

    public static void main(String[] args) throws IOException, IllegalAccessException {
        Document document = new Document();
        List<String> source = Files.readAllLines(Path.of("src/main/java/FaultDesk.java")).stream().map(String::strip).toList();
        CHECK.holds("public and final", Modifier.isPublic(FaultDesk.class.getModifiers()) && Modifier.isFinal(FaultDesk.class.getModifiers()));
        toTheLetter(document, source);
        constants(document);
        methods(document);
        promises(document);
        groups(document, source);
        nothingElse();
        CHECK.end();
    }

    private static boolean isPublic(Member member) {
        return Modifier.isPublic(member.getModifiers());
    }

    private static void toTheLetter(Document document, List<String> source) {
        CHECK.due("lines of the face", document.face().size(), CALLS + 2);
        for (String line : document.face()) {
            String due = line.contains(" = ") ? line : line.replaceAll(";$", " {");
            CHECK.due("the source says: " + due, source.stream().filter(due::equals).count(), 1);
        }
        CHECK.due("public lines", source.stream().filter(line -> line.startsWith("public ")).count(), CALLS + 3);
    }

    private static void constants(Document document) throws IllegalAccessException {
        TreeMap<String, Integer> due = new TreeMap<>();
        for (String line : document.face()) {
            Matcher constant = CONSTANT.matcher(line);
            while (constant.find()) {
                due.put(constant.group(1), Integer.parseInt(constant.group(2)));
            }
        }
        TreeMap<String, Integer> found = new TreeMap<>();
        for (Field field : FaultDesk.class.getDeclaredFields()) {
            if (!Modifier.isPrivate(field.getModifiers())) {
                CHECK.holds(field + " is a public constant", isPublic(field) && Modifier.isStatic(field.getModifiers()) && Modifier.isFinal(field.getModifiers()));
                found.put(field.getName(), field.getInt(null));
            }
        }
        CHECK.due("how many constants", due.size(), CONSTANTS);
        CHECK.holds("the constants: " + found, found.equals(due));
    }

    private static void methods(Document document) {
        Set<String> due = new TreeSet<>();
        Set<String> names = new TreeSet<>();
        for (String line : document.face()) {
            Matcher method = METHOD.matcher(line);
            if (method.matches()) {
                int parameters = method.group(3).isEmpty() ? 0 : method.group(3).split(",").length;
                due.add(method.group(1) + " " + method.group(2) + " int".repeat(parameters));
                names.add(method.group(2));
            }
        }
        Set<String> found = new TreeSet<>();
        for (Method method : FaultDesk.class.getDeclaredMethods()) {
            if (!Modifier.isPrivate(method.getModifiers())) {
                CHECK.holds(method + " is public and of the object", isPublic(method) && !Modifier.isStatic(method.getModifiers()));
                String types = Arrays.stream(method.getParameterTypes()).map(type -> " " + type).collect(Collectors.joining());
                found.add(method.getReturnType() + " " + method.getName() + types);
            }
        }
        CHECK.due("how many calls", due.size(), CALLS);
        CHECK.holds("the methods: " + found, found.equals(due));
        for (Class<?> each : allClasses()) {
            for (Method method : each.getDeclaredMethods()) {
                boolean isOfFace = each == FaultDesk.class && isPublic(method);
                CHECK.holds(method + " bears no name of the face", isOfFace || !names.contains(method.getName()));
            }
        }
    }

    private static List<Class<?>> allClasses() {
        List<Class<?>> all = new ArrayList<>(List.of(FaultDesk.class.getDeclaredClasses()));
        all.add(FaultDesk.class);
        return all;
    }

    /** The promises are of the constructor and the methods, in their order. */
    private static void promises(Document document) {
        List<String> heads = new ArrayList<>();
        for (String heading : document.headings()) {
            Matcher head = HEAD.matcher(document.section(heading));
            if (heading.startsWith("Promise ") && head.find()) {
                heads.add("public " + head.group(1) + ";");
            }
        }
        List<String> face = document.face().stream().filter(line -> !line.contains(" = ")).toList();
        CHECK.holds("a promise for each line of the face: " + heads, heads.equals(face));
    }

    /** The comments that stand ahead of the calls, and which calls stand behind each. */
    private static void groups(Document document, List<String> source) {
        List<String> due = new ArrayList<>();
        Matcher group = GROUP.matcher(document.section("Terms"));
        while (group.find()) {
            due.add("// ---- " + group.group(2));
            due.addAll(List.of(group.group(1).replace("`", "").split(", ")));
        }
        List<String> found = new ArrayList<>();
        for (String line : source) {
            Matcher method = METHOD.matcher(line.replaceAll(" \\{$", ";"));
            if (line.startsWith("// ---- ")) {
                found.add(line);
            } else if (method.matches()) {
                found.add(method.group(2));
            }
        }
        CHECK.due("calls and the comments ahead of them", due.size(), CALLS + 4);
        CHECK.holds("the calls stand as: " + found, found.equals(due));
    }

    private static void nothingElse() {
        for (Constructor<?> constructor : FaultDesk.class.getDeclaredConstructors()) {
            CHECK.holds("a constructor without parameters", isPublic(constructor) && constructor.getParameterCount() == 0);
        }
        for (Class<?> inside : FaultDesk.class.getDeclaredClasses()) {
            CHECK.holds(inside + " is static", Modifier.isStatic(inside.getModifiers()));
            CHECK.holds(inside + " is not public", !Modifier.isPublic(inside.getModifiers()) && !Modifier.isProtected(inside.getModifiers()));
        }
    }
}
