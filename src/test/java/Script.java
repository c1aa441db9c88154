import java.util.Arrays;
import java.util.regex.Matcher;
import java.util.regex.Pattern;

/**
 * Runs of calls told in lines, each with the answer that is due:
 *   new                        a new desk
 *   done "net 9"               the text alone is written and done
 *   text "net 9"               the text alone is written
 *   fault "net 0" = 4          the text alone is written, and its fault is asked for
 *   count(0) = 1               a call; its answer is a number or the name of a constant
 *   told(0, 2) = 19/16         a call that tells a fraction, asked for part 0 and for part 1
 */
final class Script {
    private static final Pattern TEXT = Pattern.compile("(done|text|fault) \"([^\"]*)\"(?: = (\\S+))?");
    private static final Pattern CALL = Pattern.compile("(\\w+)\\(([^)]*)\\) = (\\S+)");

    private final Check check;
    private FaultDesk desk = new FaultDesk();

    private Script(Check check) {
        this.check = check;
    }

    static void run(Check check, String lines) {
        Script script = new Script(check);
        for (String line : lines.split("\n")) {
            if (!line.isBlank()) {
                script.perform(line.strip());
            }
        }
    }

    private void perform(String line) {
        Matcher text = TEXT.matcher(line);
        Matcher call = CALL.matcher(line);
        if (line.equals("new")) {
            desk = new FaultDesk();
        } else if (text.matches()) {
            writeAlone(line, text.group(2));
            if (text.group(1).equals("done")) {
                check.holds(line, desk.net() > 0);
            } else if (text.group(1).equals("fault")) {
                check.due(line, desk.fault(), valueOf(text.group(3)));
            }
        } else if (call.matches()) {
            ask(line, call.group(1), numbersOf(call.group(2)), call.group(3));
        } else {
            throw new IllegalArgumentException(line);
        }
    }

    private void writeAlone(String line, String text) {
        desk.erase();
        for (int i = 0; i < text.length(); i++) {
            check.due(line, desk.write(text.charAt(i)), i + 1);
        }
    }

    private void ask(String line, String name, int[] arguments, String due) {
        String[] parts = due.split("/");
        if (parts.length == 1) {
            check.due(line, Calls.answer(desk, name, arguments), valueOf(due));
            return;
        }
        int[] more = Arrays.copyOf(arguments, arguments.length + 1);
        for (int part = 0; part < 2; part++) {
            more[arguments.length] = part;
            check.due(line + ", part " + part, Calls.answer(desk, name, more), valueOf(parts[part]));
        }
    }

    private static int[] numbersOf(String list) {
        return list.isBlank() ? new int[0] : Arrays.stream(list.split(",")).mapToInt(n -> Integer.parseInt(n.strip())).toArray();
    }

    private static long valueOf(String told) {
        switch (told) {
            case "NONE": return -1;
            case "UNKNOWN": return -2000000001;
            case "OUTSIDE": return -2000000002;
            case "NOT": return -2000000003;
            case "OVER": return -2000000004;
            case "NULL": return -2000000011;
            case "EMPTY": return -2000000012;
            case "CAST": return -2000000013;
            case "ROOM": return -2000000014;
            default: return Long.parseLong(told);
        }
    }
}
