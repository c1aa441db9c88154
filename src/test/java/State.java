import java.util.ArrayList;
import java.util.Arrays;
import java.util.List;

/** A way to bring a new desk to a state, and all that can be asked of it then. */
final class State {
    private static final int MOST_CALLS = 512;

    final String name;
    final int lastBus;
    private final String ending;
    private final String[] calls;

    /** The ending makes a text without a fault of the one that is there; the calls are told as "put 0 1 2 3". */
    State(String name, int lastBus, String ending, String... calls) {
        this.name = name;
        this.lastBus = lastBus;
        this.ending = ending;
        this.calls = calls;
    }

    static long answer(FaultDesk desk, String call) {
        String[] words = call.split(" ");
        return Calls.answer(desk, words[0], Arrays.stream(words).skip(1).mapToInt(Integer::parseInt).toArray());
    }

    /** A text's letters, as calls. */
    static String[] withText(String text, String... more) {
        List<String> calls = new ArrayList<>();
        text.chars().forEach(letter -> calls.add("write " + letter));
        calls.addAll(List.of(more));
        return calls.toArray(new String[0]);
    }

    FaultDesk newDesk() {
        FaultDesk desk = new FaultDesk();
        for (String call : calls) {
            answer(desk, call);
        }
        return desk;
    }

    /** All that is told from now on: first what only asks, then what uses the desk up. */
    List<String> observe(FaultDesk desk) {
        List<String> told = new ArrayList<>();
        observeNet(desk, told);
        observePhases(desk, told);
        observeStores(desk, told);
        for (int i = 0; i < 9; i++) {
            if (ask(desk, told, "undo") < 0) {
                break;
            }
            observePhases(desk, told);
        }
        for (int k = 0; k < 2; k++) {
            if (ask(desk, told, "back " + k) > 0) {
                observePhases(desk, told);
            }
        }
        ask(desk, told, "fault");
        for (String call : withText(ending)) {
            ask(desk, told, call);
        }
        ask(desk, told, "net");
        observeNet(desk, told);
        if (told.size() + calls.length + 1 > MOST_CALLS) {
            throw new IllegalStateException(name + " asks a desk too often: " + (told.size() + calls.length));
        }
        return told;
    }

    private static long ask(FaultDesk desk, List<String> told, String call) {
        long answer = answer(desk, call);
        told.add(call + ": " + answer);
        return answer;
    }

    private void observeNet(FaultDesk desk, List<String> told) {
        for (int what = 0; what < 5; what++) {
            ask(desk, told, "count " + what);
        }
        for (int bus = 0; bus <= lastBus + 1; bus++) {
            for (int what = 0; what < 5; what++) {
                ask(desk, told, "bus " + bus + " " + what);
            }
        }
    }

    private static void observePhases(FaultDesk desk, List<String> told) {
        for (int i = 0; i < 12; i++) {
            ask(desk, told, "told " + i / 4 + " " + i / 2 % 2 + " " + i % 2);
        }
    }

    private static void observeStores(FaultDesk desk, List<String> told) {
        for (int store = 0; store < 3; store++) {
            for (int i = 0; i < 9; i++) {
                if (ask(desk, told, "take " + store + " 0") < -9999 && ask(desk, told, "take " + store + " 1") < 0) {
                    break;
                }
            }
        }
    }
}
