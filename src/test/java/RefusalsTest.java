import java.util.ArrayList;
import java.util.List;

/**
 * Each bound of each call on both its sides, every mixture of wrong numbers (of several refusals the first
 * is due), and that a refused call, or one that only asks, changes nothing.
 */
public final class RefusalsTest {
    private static final Check CHECK = new Check("RefusalsTest");
    // The last bus depends on the state.
    private static final int LAST_BUS = -1;

    record Bound(long refusal, int least, int greatest) {
        int greatestIn(State state) {
            return greatest == LAST_BUS ? state.lastBus : greatest;
        }
    }

    record Bounds(String call, Bound... numbers) {
    }

    private static final Bound BUS = new Bound(FaultDesk.UNKNOWN, 0, LAST_BUS);
    private static final Bound PHASE = new Bound(FaultDesk.UNKNOWN, 0, 2);
    private static final Bound STORE = new Bound(FaultDesk.UNKNOWN, 0, 2);
    private static final Bound SORT = to(3);
    private static final Bound F = to(9);
    private static final Bound PART = to(1);
    private static final Bound WHOLE = new Bound(FaultDesk.OUTSIDE, -9999, 9999);
    private static final Bound DIVISOR = new Bound(FaultDesk.OUTSIDE, 1, 9999);

    private static final List<Bounds> ALL = List.of(
        new Bounds("write", to(255)),
        new Bounds("bus", BUS, to(8)),
        new Bounds("phase", PHASE, WHOLE, DIVISOR, WHOLE, DIVISOR),
        new Bounds("load", SORT, BUS, F),
        new Bounds("keep", to(1)),
        new Bounds("back", to(1)),
        new Bounds("told", PHASE, to(2), PART),
        new Bounds("fold", to(3), to(1), PART),
        new Bounds("most", to(2)),
        new Bounds("current", SORT, BUS, F, PHASE, to(2), PART),
        new Bounds("voltage", SORT, BUS, F, BUS, PHASE, to(2), PART),
        new Bounds("sag", SORT, BUS, F, to(100)),
        new Bounds("trips", SORT, BUS, F),
        new Bounds("worst", SORT, F),
        new Bounds("match", to(1)),
        new Bounds("store", STORE),
        new Bounds("put", STORE, to(1), WHOLE, WHOLE),
        new Bounds("take", STORE, to(1)),
        new Bounds("sum", STORE, to(2)),
        new Bounds("drop", STORE),
        new Bounds("count", to(4)));

    private static final State NEW = new State("a new desk", 0, "net 8");
    private static final State FULL_TEXT = new State("a text of 200", 0, "", State.withText("net 8" + " ".repeat(195)));
    private static final State USED = new State("a desk in use", 2, " 0 1 1 1",
        State.withText("net 60;source 0 0 0;bus 0 0 2 1;bus 1 3 3 3;relay 1 9", "net", "turn", "phase 0 1 2 3 4", "phase 1 5 6 7 8",
            "keep 0", "split", "phase 2 9 10 11 12", "join", "turn", "load 3 1 1", "phase 1 -1 2 -3 4", "turn", "store 0", "put 0 0 5 0",
            "put 0 1 5 6", "store 1", "put 1 0 1 0", "put 1 1 2 3", "put 1 0 4 0", "put 1 1 5 6", "put 1 0 7 0", "put 1 1 8 9", "put 1 0 10 0",
            "put 1 0 11 0", "write 110", "write 101", "write 116", "write 55", "write 59", "write 98", "write 117", "write 115"));
    private static final State LARGE = new State("phases that are over", 0, "net 8",
        "phase 0 9999 9998 1 9997", "keep 1", "phase 1 9999 9991 1 9989", "phase 2 1 9987 1 1", "store 2");

    public static void main(String[] args) {
        for (State state : List.of(NEW, FULL_TEXT, USED, LARGE)) {
            for (Bounds bounds : ALL) {
                oneWrong(state, bounds);
                someWrong(state, bounds);
            }
        }
        refusedByState();
        askingChangesNothing();
        CHECK.end();
    }

    private static Bound to(int greatest) {
        return new Bound(FaultDesk.OUTSIDE, 0, greatest);
    }

    // ---- bounds

    /** Each number in turn on each side of its bounds, the others as small as they may be. */
    private static void oneWrong(State state, Bounds bounds) {
        for (int i = 0; i < bounds.numbers.length; i++) {
            Bound bound = bounds.numbers[i];
            int greatest = bound.greatestIn(state);
            for (int wrong : new int[] {Integer.MIN_VALUE, bound.least - 1, greatest + 1, Integer.MAX_VALUE}) {
                isRefused(state, callOf(bounds, i, wrong), bound.refusal);
            }
            for (int right : new int[] {bound.least, greatest}) {
                String call = callOf(bounds, i, right);
                long answer = State.answer(state.newDesk(), call);
                CHECK.holds(state.name + ": " + call + " is within the bounds", answer != FaultDesk.UNKNOWN && answer != FaultDesk.OUTSIDE);
            }
        }
    }

    private static String callOf(Bounds bounds, int place, int number) {
        StringBuilder call = new StringBuilder(bounds.call);
        for (int i = 0; i < bounds.numbers.length; i++) {
            call.append(' ').append(i == place ? number : bounds.numbers[i].least);
        }
        return call.toString();
    }

    /** Every mixture of right numbers and wrong ones, these below and above. */
    private static void someWrong(State state, Bounds bounds) {
        int many = (int) Math.pow(3, bounds.numbers.length);
        FaultDesk desk = state.newDesk();
        for (int mixture = 1; mixture < many; mixture++) {
            StringBuilder call = new StringBuilder(bounds.call);
            long due = 0;
            for (int i = 0, rest = mixture; i < bounds.numbers.length; i++, rest /= 3) {
                Bound bound = bounds.numbers[i];
                int[] choices = {bound.least, bound.least - 1, bound.greatestIn(state) + 1};
                call.append(' ').append(choices[rest % 3]);
                due = rest % 3 > 0 && due != FaultDesk.UNKNOWN ? bound.refusal : due;
            }
            desk = mixture % 200 == 0 ? state.newDesk() : desk;
            CHECK.due(state.name + ": " + call, State.answer(desk, call.toString()), due);
        }
    }

    // ---- nothing changes

    private static void isRefused(State state, String call, long due) {
        FaultDesk desk = state.newDesk();
        CHECK.due(state.name + ": " + call, State.answer(desk, call), due);
        changedNothing(state, desk, call);
    }

    private static void changedNothing(State state, FaultDesk desk, String call) {
        List<String> before = state.observe(state.newDesk());
        List<String> behind = state.observe(desk);
        CHECK.holds(state.name + ": " + call + " changes nothing, but " + firstUnlike(before, behind), before.equals(behind));
    }

    private static String firstUnlike(List<String> before, List<String> behind) {
        for (int i = 0; i < Math.min(before.size(), behind.size()); i++) {
            if (!before.get(i).equals(behind.get(i))) {
                return before.get(i) + " became " + behind.get(i);
            }
        }
        return "how many answers there are";
    }

    private static void refusedByState() {
        all(NEW, FaultDesk.NOT, "net", "undo", "back 0", "back 1");
        all(NEW, FaultDesk.NULL, "put 0 0 1 1", "put 2 1 1 1", "take 0 0", "take 1 1", "sum 0 0", "sum 2 2", "drop 0", "drop 2");
        all(FULL_TEXT, FaultDesk.NOT, "write 0", "write 32", "write 255");
        all(USED, FaultDesk.NOT, "net", "back 1", "load 0 0 0", "load 1 0 0", "load 2 0 0", "load 2 0 9", "load 3 0 0", "current 0 0 0 0 0 0",
            "voltage 1 0 0 2 0 0 0", "sag 2 0 0 50", "trips 3 0 0");
        all(USED, FaultDesk.CAST, "take 0 0", "take 1 1");
        all(USED, FaultDesk.ROOM, "put 1 0 1 1", "put 1 1 1 1");
        all(USED, FaultDesk.NULL, "put 2 0 1 1", "take 2 0", "sum 2 0", "drop 2");
        all(LARGE, FaultDesk.OVER, "split", "join", "told 0 2 0", "told 1 2 1", "fold 0 0 0", "fold 1 0 0", "fold 2 0 0", "fold 3 1 1",
            "most 0", "most 1", "most 2");
        all(LARGE, FaultDesk.EMPTY, "take 2 0", "take 2 1");
        all(LARGE, FaultDesk.NOT, "back 0", "net");
    }

    private static void all(State state, long due, String... calls) {
        for (String call : calls) {
            isRefused(state, call, due);
        }
    }

    private static void askingChangesNothing() {
        List<String> calls = new ArrayList<>(List.of("fault", "most 0", "most 1", "most 2", "worst 0 0", "worst 3 9", "match 0", "match 1",
            "current 0 1 0 0 2 0", "voltage 1 2 0 0 1 2 1", "sag 2 2 1 60", "trips 3 2 0", "sum 0 0", "sum 1 1", "sum 1 2"));
        for (int i = 0; i < 4; i++) {
            calls.add("fold " + i + " 0 0");
            calls.add("told " + i % 3 + " " + i % 3 + " 0");
            calls.add("count " + i);
            calls.add("bus 2 " + (5 + i));
        }
        for (String call : calls) {
            FaultDesk desk = USED.newDesk();
            State.answer(desk, call);
            changedNothing(USED, desk, call);
        }
    }
}
