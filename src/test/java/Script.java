import java.util.Arrays;
import java.util.HashSet;
import java.util.Set;
import java.util.regex.Matcher;
import java.util.regex.Pattern;

/**
 * Runs of calls told in lines, each with the answer that is due:
 *   new                        a new desk
 *   done "net 9"               the text alone is written and done
 *   text "net 9"               the text alone is written
 *   fault "net 0" = 4          the text alone is written, and its fault is asked for
 *   large 31623 15811          A becomes 31623 and 15811 w, B and C 0; nothing can be undone, k 1 is used
 *   count(0) = 1               a call; its answer is a number or the name of a constant
 *   told(0, 2) = 19/16         a call that tells a fraction, asked for part 0 and for part 1
 */
final class Script {
    // What a desk answers behind so many calls is free, so no run may ask it more.
    private static final int MOST_CALLS = 512;
    private static final Pattern TEXT = Pattern.compile("(done|text|fault) \"([^\"]*)\"(?: = (\\S+))?");
    private static final Pattern LARGE = Pattern.compile("large (\\S+) (\\S+)");
    private static final Pattern CALL = Pattern.compile("(\\w+)\\(([^)]*)\\) = (\\S+)");

    private final Check check;
    private final String title;
    private final Set<String> answered;
    private FaultDesk desk = new FaultDesk();
    private int calls = 0;

    private Script(Check check, String title, Set<String> answered) {
        this.check = check;
        this.title = title;
        this.answered = answered;
    }

    static void run(Check check, String lines) {
        run(check, "", new HashSet<>(), lines);
    }

    /** The title is told with what is not as due; each call asked, with its due answer, is added to the answered ones. */
    static void run(Check check, String title, Set<String> answered, String lines) {
        Script script = new Script(check, title, answered);
        for (String line : lines.split("\n")) {
            if (!line.isBlank()) {
                script.perform(line.strip());
            }
        }
    }

    private void perform(String line) {
        Matcher text = TEXT.matcher(line);
        Matcher large = LARGE.matcher(line);
        Matcher call = CALL.matcher(line);
        if (line.equals("new")) {
            desk = new FaultDesk();
            calls = 0;
        } else if (text.matches()) {
            writeAlone(line, text.group(2));
            if (text.group(1).equals("done")) {
                check.holds(title + line, answer("net") > 0);
            } else if (text.group(1).equals("fault")) {
                due(line, "fault", new int[0], text.group(3));
            }
        } else if (large.matches()) {
            grow(line, Integer.parseInt(large.group(1)), Integer.parseInt(large.group(2)));
            deed(line, "keep", 1);
            deed(line, "back", 1);
        } else if (call.matches()) {
            ask(line, call.group(1), numbersOf(call.group(2)), call.group(3));
        } else {
            throw new IllegalArgumentException(line);
        }
    }

    private long answer(String name, int... arguments) {
        calls++;
        if (calls > MOST_CALLS) {
            check.holds(title + "a desk is asked " + MOST_CALLS + " times at most", false);
        }
        return Calls.answer(desk, name, arguments);
    }

    private void due(String line, String name, int[] arguments, String due) {
        answered.add(name + " " + due);
        check.due(title + line, answer(name, arguments), valueOf(due));
    }

    private void deed(String line, String name, int... arguments) {
        check.due(title + line + ", by " + name, answer(name, arguments), 1);
    }

    private void writeAlone(String line, String text) {
        answer("erase");
        for (int i = 0; i < text.length(); i++) {
            check.due(title + line, answer("write", text.charAt(i)), i + 1);
        }
    }

    /** Beyond what phase() takes: from a third, put back twice, which makes it three times as much, and a rest. */
    private void grow(String line, int a, int b) {
        if (Math.abs(a) <= 9999 && Math.abs(b) <= 9999) {
            deed(line, "phase", 0, a, 1, b, 1);
        } else {
            grow(line, a / 3, b / 3);
            deed(line, "join");
            deed(line, "join");
            deed(line, "phase", 1, a % 3, 1, b % 3, 1);
            deed(line, "join");
        }
        deed(line, "phase", 1, 0, 1, 0, 1);
        deed(line, "phase", 2, 0, 1, 0, 1);
    }

    private void ask(String line, String name, int[] arguments, String due) {
        String[] parts = due.split("/");
        if (parts.length == 1) {
            due(line, name, arguments, due);
            return;
        }
        int[] more = Arrays.copyOf(arguments, arguments.length + 1);
        for (int part = 0; part < 2; part++) {
            more[arguments.length] = part;
            due(line + ", part " + part, name, more, parts[part]);
        }
    }

    private static int[] numbersOf(String list) {
        return list.isBlank() ? new int[0] : Arrays.stream(list.split(",")).mapToInt(n -> Integer.parseInt(n.strip())).toArray();
    }

    private static long valueOf(String told) {
        switch (told) {
            case "NONE": return -1;
            case "UNKNOWN": return -2000000001;
            case "OUTSIDE": return -2000000002;
            case "NOT": return -2000000003;
            case "OVER": return -2000000004;
            case "NULL": return -2000000011;
            case "EMPTY": return -2000000012;
            case "CAST": return -2000000013;
            case "ROOM": return -2000000014;
            default: return Long.parseLong(told);
        }
    }
}
