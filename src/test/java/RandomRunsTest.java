import java.util.Arrays;
import java.util.Random;

/** Long runs of calls, drawn with a fixed seed, on the class and on Model at once. */
public final class RandomRunsTest {
    private static final int RUNS = 400, CALLS = 512;
    private static final String[] NAMES = {
        "phase", "split", "join", "turn", "load", "undo", "keep", "back", "told", "fold", "most",
        "current", "voltage", "sag", "trips", "worst", "match",
        "store", "put", "take", "sum", "drop", "count", "bus", "fault", "net", "erase", "write",
    };
    private static final int[] WILD = {
        Integer.MIN_VALUE, Integer.MAX_VALUE, -1, -2, 10, 11, 100, 101, 255, 256, 1000, 9999, 10000, -9999, -10000, 1000000000,
    };

    private final Random random;
    private final FaultDesk desk = new FaultDesk();
    private final Model model = new Model();
    private final Check check;
    private final int run;
    private int calls = 0;

    private RandomRunsTest(int run, Check check) {
        this.run = run;
        this.check = check;
        random = new Random(7919L * run + 1);
    }

    public static void main(String[] args) {
        Check check = new Check("RandomRunsTest");
        for (int run = 0; run < RUNS; run++) {
            new RandomRunsTest(run, check).runCalls();
        }
        check.end();
    }

    private void runCalls() {
        if (random.nextInt(8) > 0) {
            writeText();
            call("net");
        }
        while (calls < CALLS) {
            if (random.nextInt(60) == 0) {
                writeText();
                call("fault");
                call("net");
                call(random.nextInt(4) == 0 ? "fault" : "erase");
            }
            String name = NAMES[random.nextInt(NAMES.length - (random.nextInt(3) == 0 ? 0 : 4))];
            call(name, argumentsOf(name));
        }
    }

    // What a desk answers behind its last call is free, so a text may be broken off.
    private void call(String name, int... n) {
        if (calls == CALLS) {
            return;
        }
        calls++;
        check.due("run " + run + ", call " + calls + ": " + name + Arrays.toString(n), Calls.answer(desk, name, n), model.answer(name, n));
    }

    private int below(int bound) {
        return random.nextInt(40) == 0 ? WILD[random.nextInt(WILD.length)] : random.nextInt(bound + (random.nextInt(30) == 0 ? 1 : 0));
    }

    private int whole() {
        switch (random.nextInt(4)) {
            case 0:
                return below(10);
            case 1:
                return random.nextInt(19999) - 9999;
            default:
                return random.nextInt(41) - 20;
        }
    }

    private int divisor() {
        return random.nextInt(30) == 0 ? below(3) : random.nextInt(5) == 0 ? 1 + random.nextInt(9999) : 1 + random.nextInt(12);
    }

    private int[] argumentsOf(String name) {
        switch (name) {
            case "phase":
                return new int[] {below(3), whole(), divisor(), whole(), divisor()};
            case "load":
            case "trips":
                return new int[] {below(4), below(6), below(10)};
            case "keep":
            case "back":
            case "match":
                return new int[] {below(2)};
            case "told":
                return new int[] {below(3), below(3), below(2)};
            case "fold":
                return new int[] {below(4), below(2), below(2)};
            case "most":
            case "store":
            case "drop":
                return new int[] {below(3)};
            case "current":
                return new int[] {below(4), below(6), below(10), below(3), below(3), below(2)};
            case "voltage":
                return new int[] {below(4), below(6), below(10), below(6), below(3), below(3), below(2)};
            case "sag":
                return new int[] {below(4), below(6), below(10), below(101)};
            case "worst":
                return new int[] {below(4), below(10)};
            case "put":
                return new int[] {below(3), below(2), whole(), whole()};
            case "take":
                return new int[] {below(3), below(2)};
            case "sum":
                return new int[] {below(3), below(3)};
            case "count":
                return new int[] {below(5)};
            case "bus":
                return new int[] {below(6), below(9)};
            case "write":
                return new int[] {below(256)};
            default:
                return new int[0];
        }
    }

    // ---- texts

    private void writeText() {
        StringBuilder text = new StringBuilder(random.nextInt(3) == 0 ? "" : "net " + (1 + random.nextInt(99)));
        int clauses = random.nextInt(12);
        for (int i = 0; i < clauses; i++) {
            text.append(text.length() == 0 ? "" : random.nextInt(3) == 0 ? " ;  " : ";");
            text.append(clause(i));
        }
        if (random.nextInt(3) == 0 && text.length() > 0) {
            spoil(text);
        }
        for (int i = 0; i < text.length(); i++) {
            call("write", text.charAt(i));
        }
    }

    private String clause(int place) {
        switch (random.nextInt(10)) {
            case 0:
                return "source " + ohms();
            case 1:
                return "net " + random.nextInt(102);
            case 2:
            case 3:
            case 4:
                return "relay " + random.nextInt(place + 2) + " " + (random.nextInt(4) == 0 ? random.nextInt(1002) : random.nextInt(60));
            default:
                return "bus " + random.nextInt(place + 1) + " " + ohms();
        }
    }

    private String ohms() {
        int bound = random.nextInt(4) == 0 ? 2 : 10;
        return random.nextInt(bound) + " " + random.nextInt(bound) + " " + random.nextInt(bound);
    }

    private void spoil(StringBuilder text) {
        String signs = " ;a0z9:A`{/\t" + (char) 255 + (char) 0;
        int at = random.nextInt(text.length());
        switch (random.nextInt(3)) {
            case 0:
                text.setCharAt(at, signs.charAt(random.nextInt(signs.length())));
                break;
            case 1:
                text.insert(at, signs.charAt(random.nextInt(signs.length())));
                break;
            default:
                text.deleteCharAt(at);
                break;
        }
    }
}
