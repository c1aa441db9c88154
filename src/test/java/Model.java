import java.math.BigInteger;
import java.util.ArrayDeque;
import java.util.ArrayList;
import java.util.Arrays;
import java.util.Collections;
import java.util.Deque;
import java.util.List;
import java.util.regex.Matcher;
import java.util.regex.Pattern;

/**
 * The document once more, with the whole Java library and with no thought of room: what the class
 * answers is held against this in RandomRunsTest. Written from the document, not from the class.
 */
final class Model {
    private static final long NONE = -1, UNKNOWN = -2000000001L, OUTSIDE = -2000000002L, NOT = -2000000003L, OVER = -2000000004L;
    private static final long NULL = -2000000011L, EMPTY = -2000000012L, CAST = -2000000013L, ROOM = -2000000014L;

    static final class TooLarge extends RuntimeException {
        private static final long serialVersionUID = 1L;
    }

    record Q(BigInteger n, BigInteger d) {
        static final BigInteger BOUND = BigInteger.valueOf(1000000000L);

        static Q of(BigInteger n, BigInteger d) {
            BigInteger g = n.gcd(d);
            return d.signum() < 0 ? new Q(n.negate().divide(g), d.negate().divide(g)) : new Q(n.divide(g), d.divide(g));
        }

        static Q of(long n, long d) {
            return of(BigInteger.valueOf(n), BigInteger.valueOf(d));
        }

        Q plus(Q o) {
            return of(n.multiply(o.d).add(o.n.multiply(d)), d.multiply(o.d));
        }

        Q minus(Q o) {
            return of(n.multiply(o.d).subtract(o.n.multiply(d)), d.multiply(o.d));
        }

        Q times(Q o) {
            return of(n.multiply(o.n), d.multiply(o.d));
        }

        Q by(Q o) {
            return of(n.multiply(o.d), d.multiply(o.n));
        }

        int compare(Q o) {
            return n.multiply(o.d).compareTo(o.n.multiply(d));
        }

        Q bounded() {
            if (n.abs().compareTo(BOUND) > 0 || d.compareTo(BOUND) > 0) {
                throw new TooLarge();
            }
            return this;
        }

        long part(int part) {
            return (part == 0 ? n : d).longValueExact();
        }
    }

    static final Q ZERO = Q.of(0, 1);
    static final Q ONE = Q.of(1, 1);

    /** a and b w; bounded tells whether a step that leaves the bounds is refused. */
    record E(Q a, Q b, boolean bounded) {
        Q look(Q q) {
            return bounded ? q.bounded() : q;
        }

        E plus(E o) {
            return new E(look(a.plus(o.a)), look(b.plus(o.b)), bounded);
        }

        E minus(E o) {
            return new E(look(a.minus(o.a)), look(b.minus(o.b)), bounded);
        }

        // (a + b w)(c + d w) = ac + (ad + bc) w + bd ww, ww = -1 - w
        E times(E o) {
            Q ac = look(a.times(o.a));
            Q ad = look(a.times(o.b));
            Q bc = look(b.times(o.a));
            Q bd = look(b.times(o.b));
            return new E(look(ac.minus(bd)), look(look(ad.plus(bc)).minus(bd)), bounded);
        }

        E w() {
            return times(new E(ZERO, ONE, bounded));
        }

        E third() {
            return new E(look(a.times(Q.of(1, 3))), look(b.times(Q.of(1, 3))), bounded);
        }

        Q norm() {
            Q aa = look(a.times(a));
            Q ab = look(a.times(b));
            Q less = look(aa.minus(ab));
            return look(less.plus(look(b.times(b))));
        }

        E with(boolean newBounded) {
            return new E(a, b, newBounded);
        }

        boolean same(E o) {
            return a.equals(o.a) && b.equals(o.b);
        }

        long told(int what, int part) {
            return (what == 0 ? a : what == 1 ? b : norm()).part(part);
        }
    }

    static E real(Q a, boolean bounded) {
        return new E(a, ZERO, bounded);
    }

    static List<E> backFrom(List<E> p) {
        E b = p.get(0).plus(p.get(1).w().w()).plus(p.get(2).w());
        E c = p.get(0).plus(p.get(1).w()).plus(p.get(2).w().w());
        return List.of(p.get(0).plus(p.get(1)).plus(p.get(2)), b, c);
    }

    record Bus(int up, int[] ohms, int[] limit) {
    }

    static final class Net {
        int volts = 50;
        List<Bus> buses = new ArrayList<>(List.of(new Bus(-1, new int[] {1, 1, 1}, new int[] {0})));

        Net copy() {
            Net net = new Net();
            net.volts = volts;
            net.buses.clear();
            for (Bus bus : buses) {
                net.buses.add(new Bus(bus.up, bus.ohms.clone(), bus.limit.clone()));
            }
            return net;
        }

        List<Integer> wayFromSource(int bus) {
            List<Integer> way = new ArrayList<>();
            for (int at = bus; at >= 0; at = buses.get(at).up) {
                way.add(0, at);
            }
            return way;
        }

        int z(int bus, int kind) {
            return wayFromSource(bus).stream().mapToInt(at -> buses.get(at).ohms[kind]).sum();
        }

        int lastOnBoth(int x, int y) {
            List<Integer> way = wayFromSource(x);
            way.retainAll(wayFromSource(y));
            return Collections.max(way);
        }
    }

    record Thing(boolean pair, int a, int b) {
    }

    private String text = "";
    private Net net = new Net();
    private int clauses = 0;
    private List<E> phases = noughts();
    private final Deque<List<E>> undone = new ArrayDeque<>();
    private final List<List<E>> kept = new ArrayList<>(Arrays.asList(null, null));
    private final List<List<Thing>> stores = new ArrayList<>(Arrays.asList(null, null, null));

    private static List<E> noughts() {
        E nought = real(ZERO, true);
        return List.of(nought, nought, nought);
    }

    // ---- the text

    private static final Pattern TOKEN = Pattern.compile("[a-z]+|[0-9]+|[^ ]", Pattern.DOTALL);

    /** The place of the fault, or NONE; what is read up to it is done on the draft. */
    private long readInto(Net draft) {
        List<String> tokens = new ArrayList<>();
        List<Integer> places = new ArrayList<>();
        Matcher matcher = TOKEN.matcher(text);
        while (matcher.find()) {
            tokens.add(matcher.group());
            places.add(matcher.start());
        }
        places.add(text.length());
        clauses = 0;
        int at = 0;
        while (true) {
            String word = at < tokens.size() ? tokens.get(at) : "";
            int[][] bounds = boundsOf(word, draft);
            if (bounds == null) {
                return places.get(at);
            }
            int[] numbers = new int[bounds.length];
            for (int i = 0; i < bounds.length; i++) {
                at++;
                String token = at < tokens.size() ? tokens.get(at) : "";
                if (!token.matches("[0-9]{1,3}")) {
                    return places.get(at);
                }
                numbers[i] = Integer.parseInt(token);
                if (numbers[i] < bounds[i][0] || numbers[i] > bounds[i][1]) {
                    return places.get(at);
                }
            }
            perform(word, numbers, draft);
            clauses++;
            at++;
            if (at == tokens.size()) {
                return NONE;
            }
            if (!tokens.get(at).equals(";") || clauses == 24) {
                return places.get(at);
            }
            at++;
        }
    }

    private static int[][] boundsOf(String word, Net draft) {
        int[] ohms = {0, 9};
        int last = draft.buses.size() - 1;
        switch (word) {
            case "net":
                return new int[][] {{1, 99}};
            case "source":
                return new int[][] {ohms, ohms, ohms};
            case "bus":
                return last == 5 ? null : new int[][] {{0, last}, ohms, ohms, ohms};
            case "relay":
                return new int[][] {{1, last}, {0, 999}};
            default:
                return null;
        }
    }

    private static void perform(String word, int[] n, Net draft) {
        switch (word) {
            case "net":
                draft.buses = new Net().buses;
                draft.volts = n[0];
                break;
            case "source":
                draft.buses.set(0, new Bus(-1, n.clone(), new int[] {0}));
                break;
            case "bus":
                draft.buses.add(new Bus(n[0], new int[] {n[1], n[2], n[3]}, new int[] {0}));
                break;
            default:
                draft.buses.get(n[0]).limit[0] = n[1];
                break;
        }
    }

    // ---- faults

    /** The parts of a fault's current, or null. */
    private List<E> partsOf(int sort, int bus, int f) {
        Q v = Q.of(net.volts, 1);
        Q z0 = Q.of(net.z(bus, 0), 1);
        Q z1 = Q.of(net.z(bus, 1), 1);
        Q z2 = Q.of(net.z(bus, 2), 1);
        Q fq = Q.of(f, 1);
        Q g = z0.plus(Q.of(3, 1).times(fq));
        Q d = z1.times(z2).plus(z1.times(g)).plus(z2.times(g));
        Q under = sort == 0 ? g.plus(z1).plus(z2) : sort == 1 ? z1.plus(z2).plus(fq) : sort == 2 ? d : z1.plus(fq);
        if (under.n().signum() == 0) {
            return null;
        }
        Q each = v.by(under);
        Q less = ZERO.minus(each);
        switch (sort) {
            case 0:
                return parts(each, each, each);
            case 1:
                return parts(ZERO, each, less);
            case 2:
                return parts(less.times(z2), each.times(z2.plus(g)), less.times(g));
            default:
                return parts(ZERO, each, ZERO);
        }
    }

    private static List<E> parts(Q zero, Q one, Q two) {
        return List.of(real(zero, false), real(one, false), real(two, false));
    }

    private List<E> currents(int sort, int bus, int f) {
        List<E> parts = partsOf(sort, bus, f);
        return parts == null ? null : backFrom(parts);
    }

    private List<E> voltages(int sort, int bus, int f, int at) {
        List<E> p = partsOf(sort, bus, f);
        if (p == null) {
            return null;
        }
        int meet = net.lastOnBoth(bus, at);
        Q[] falls = new Q[3];
        for (int k = 0; k < 3; k++) {
            falls[k] = Q.of(net.z(meet, k), 1).times(p.get(k).a());
        }
        return backFrom(parts(ZERO.minus(falls[0]), Q.of(net.volts, 1).minus(falls[1]), ZERO.minus(falls[2])));
    }

    private static Q greatest(List<E> three) {
        return three.stream().map(E::norm).max(Q::compare).get();
    }

    private static Q least(List<E> three) {
        return three.stream().map(E::norm).min(Q::compare).get();
    }

    // ---- the calls

    private static boolean in(int n, int lo, int hi) {
        return lo <= n && n <= hi;
    }

    private boolean bus(int n) {
        return in(n, 0, net.buses.size() - 1);
    }

    private void deed(List<E> now) {
        undone.push(phases);
        if (undone.size() > 8) {
            undone.removeLast();
        }
        phases = now;
    }

    /** What is due for a call. */
    long answer(String name, int[] n) {
        try {
            switch (name) {
                case "write":
                case "erase":
                case "fault":
                case "net":
                case "bus":
                    return answerTold(name, n);
                case "phase":
                case "split":
                case "join":
                case "turn":
                case "load":
                case "undo":
                case "keep":
                case "back":
                    return answerDeed(name, n);
                case "told":
                case "fold":
                case "most":
                    return answerPhases(name, n);
                case "current":
                case "voltage":
                case "sag":
                case "trips":
                case "worst":
                case "match":
                    return answerFaults(name, n);
                default:
                    return answerStores(name, n);
            }
        } catch (TooLarge e) {
            return OVER;
        }
    }

    private long answerTold(String name, int[] n) {
        switch (name) {
            case "write":
                if (!in(n[0], 0, 255)) {
                    return OUTSIDE;
                }
                if (text.length() == 200) {
                    return NOT;
                }
                text += (char) n[0];
                return text.length();
            case "erase":
                int had = text.length();
                text = "";
                return had;
            case "fault":
                return readInto(net.copy());
            case "net":
                Net draft = net.copy();
                if (readInto(draft) != NONE) {
                    return NOT;
                }
                net = draft;
                text = "";
                phases = noughts();
                undone.clear();
                Collections.fill(kept, null);
                Collections.fill(stores, null);
                return clauses;
            default:
                return answerBus(n[0], n[1]);
        }
    }

    private long answerBus(int bus, int what) {
        if (!bus(bus)) {
            return UNKNOWN;
        }
        if (!in(what, 0, 8)) {
            return OUTSIDE;
        }
        Bus told = net.buses.get(bus);
        if (what == 0) {
            return told.up;
        }
        if (what <= 3) {
            return told.ohms[what - 1];
        }
        if (what == 4) {
            return told.limit[0];
        }
        return what == 8 ? net.wayFromSource(bus).size() - 1 : net.z(bus, what - 5);
    }

    private long answerDeed(String name, int[] n) {
        switch (name) {
            case "phase":
                if (!in(n[0], 0, 2)) {
                    return UNKNOWN;
                }
                if (!in(n[1], -9999, 9999) || !in(n[2], 1, 9999) || !in(n[3], -9999, 9999) || !in(n[4], 1, 9999)) {
                    return OUTSIDE;
                }
                List<E> told = new ArrayList<>(phases);
                told.set(n[0], new E(Q.of(n[1], n[2]), Q.of(n[3], n[4]), true));
                deed(told);
                return 1;
            case "split":
                E a = phases.get(0);
                E b = phases.get(1);
                E c = phases.get(2);
                deed(List.of(a.plus(b).plus(c).third(), a.plus(b.w()).plus(c.w().w()).third(), a.plus(b.w().w()).plus(c.w()).third()));
                return 1;
            case "join":
                deed(backFrom(phases));
                return 1;
            case "turn":
                deed(List.of(phases.get(1), phases.get(2), phases.get(0)));
                return 1;
            case "load":
                if (!bus(n[1])) {
                    return UNKNOWN;
                }
                if (!in(n[0], 0, 3) || !in(n[2], 0, 9)) {
                    return OUTSIDE;
                }
                List<E> currents = currents(n[0], n[1], n[2]);
                if (currents == null) {
                    return NOT;
                }
                deed(currents.stream().map(e -> e.with(true)).toList());
                return 1;
            case "undo":
                if (undone.isEmpty()) {
                    return NOT;
                }
                phases = undone.pop();
                return undone.size();
            default:
                return answerKept(name, n[0]);
        }
    }

    private long answerKept(String name, int k) {
        if (!in(k, 0, 1)) {
            return OUTSIDE;
        }
        if (name.equals("keep")) {
            kept.set(k, phases);
            return 1;
        }
        if (kept.get(k) == null) {
            return NOT;
        }
        phases = kept.get(k);
        undone.clear();
        return 1;
    }

    private long answerPhases(String name, int[] n) {
        switch (name) {
            case "told":
                if (!in(n[0], 0, 2)) {
                    return UNKNOWN;
                }
                return in(n[1], 0, 2) && in(n[2], 0, 1) ? phases.get(n[0]).told(n[1], n[2]) : OUTSIDE;
            case "fold":
                if (!in(n[0], 0, 3) || !in(n[1], 0, 1) || !in(n[2], 0, 1)) {
                    return OUTSIDE;
                }
                return folded(n[0]).told(n[1], n[2]);
            default:
                if (!in(n[0], 0, 2)) {
                    return OUTSIDE;
                }
                if (n[0] == 2) {
                    return folded(0).same(real(ZERO, true)) ? 1 : 0;
                }
                List<Q> norms = phases.stream().map(E::norm).toList();
                if (n[0] == 1) {
                    return norms.stream().distinct().count() == 1 ? 1 : 0;
                }
                return norms.indexOf(norms.stream().max(Q::compare).get());
        }
    }

    private E folded(int rule) {
        E there = real(ZERO, true);
        for (E each : phases) {
            switch (rule) {
                case 0:
                    there = there.plus(each);
                    break;
                case 1:
                    there = there.w().plus(each);
                    break;
                case 2:
                    there = each.norm().compare(there.norm()) > 0 ? each : there;
                    break;
                default:
                    there = there.minus(each);
                    break;
            }
        }
        return there;
    }

    private long answerFaults(String name, int[] n) {
        switch (name) {
            case "current":
                if (!bus(n[1]) || !in(n[3], 0, 2)) {
                    return UNKNOWN;
                }
                if (!in(n[0], 0, 3) || !in(n[2], 0, 9) || !in(n[4], 0, 2) || !in(n[5], 0, 1)) {
                    return OUTSIDE;
                }
                List<E> currents = currents(n[0], n[1], n[2]);
                return currents == null ? NOT : currents.get(n[3]).told(n[4], n[5]);
            case "voltage":
                if (!bus(n[1]) || !bus(n[3]) || !in(n[4], 0, 2)) {
                    return UNKNOWN;
                }
                if (!in(n[0], 0, 3) || !in(n[2], 0, 9) || !in(n[5], 0, 2) || !in(n[6], 0, 1)) {
                    return OUTSIDE;
                }
                List<E> voltages = voltages(n[0], n[1], n[2], n[3]);
                return voltages == null ? NOT : voltages.get(n[4]).told(n[5], n[6]);
            case "sag":
                if (!bus(n[1])) {
                    return UNKNOWN;
                }
                return in(n[0], 0, 3) && in(n[2], 0, 9) && in(n[3], 0, 100) ? sagged(n[0], n[1], n[2], n[3]) : OUTSIDE;
            case "trips":
                if (!bus(n[1])) {
                    return UNKNOWN;
                }
                return in(n[0], 0, 3) && in(n[2], 0, 9) ? tripped(n[0], n[1], n[2]) : OUTSIDE;
            case "worst":
                return in(n[0], 0, 3) && in(n[1], 0, 9) ? worst(n[0], n[1]) : OUTSIDE;
            default:
                List<Integer> codes = matching();
                return n[0] == 0 ? codes.size() : n[0] != 1 ? OUTSIDE : codes.isEmpty() ? NONE : Collections.min(codes);
        }
    }

    private long sagged(int sort, int bus, int f, int p) {
        Q bound = Q.of((long) net.volts * net.volts * p * p, 10000);
        long bits = 0;
        for (int at = 0; at < net.buses.size(); at++) {
            List<E> voltages = voltages(sort, bus, f, at);
            if (voltages == null) {
                return NOT;
            }
            bits += least(voltages).compare(bound) < 0 ? 1L << at : 0;
        }
        return bits;
    }

    private long tripped(int sort, int bus, int f) {
        List<E> currents = currents(sort, bus, f);
        if (currents == null) {
            return NOT;
        }
        long bits = 0;
        for (int at : net.wayFromSource(bus)) {
            int limit = net.buses.get(at).limit[0];
            bits += limit != 0 && greatest(currents).compare(Q.of((long) limit * limit, 1)) > 0 ? 1L << at : 0;
        }
        return bits;
    }

    private long worst(int sort, int f) {
        long worst = NONE;
        Q most = null;
        for (int bus = net.buses.size() - 1; bus >= 0; bus--) {
            List<E> currents = currents(sort, bus, f);
            if (currents != null && (most == null || greatest(currents).compare(most) >= 0)) {
                most = greatest(currents);
                worst = bus;
            }
        }
        return worst;
    }

    private List<Integer> matching() {
        List<Integer> codes = new ArrayList<>();
        for (int code = 0; code < 40000; code++) {
            int bus = code / 100 % 100;
            int f = code % 100;
            if (bus < net.buses.size() && f < 10) {
                List<E> c = currents(code / 10000, bus, f);
                if (c != null && c.get(0).same(phases.get(0)) && c.get(1).same(phases.get(1)) && c.get(2).same(phases.get(2))) {
                    codes.add(code);
                }
            }
        }
        return codes;
    }

    private long answerStores(String name, int[] n) {
        if (name.equals("count")) {
            return answerCount(n[0]);
        }
        if (!in(n[0], 0, 2)) {
            return UNKNOWN;
        }
        List<Thing> things = stores.get(n[0]);
        switch (name) {
            case "store":
                stores.set(n[0], new ArrayList<>());
                return 0;
            case "put":
                if (!in(n[1], 0, 1) || !in(n[2], -9999, 9999) || !in(n[3], -9999, 9999)) {
                    return OUTSIDE;
                }
                if (things == null || things.size() == 8) {
                    return things == null ? NULL : ROOM;
                }
                things.add(new Thing(n[1] == 1, n[2], n[3]));
                return things.size();
            case "take":
                if (!in(n[1], 0, 1)) {
                    return OUTSIDE;
                }
                if (things == null || things.isEmpty()) {
                    return things == null ? NULL : EMPTY;
                }
                Thing top = things.get(things.size() - 1);
                if (top.pair != (n[1] == 1)) {
                    return CAST;
                }
                things.remove(things.size() - 1);
                return top.pair ? new E(Q.of(top.a, 1), Q.of(top.b, 1), false).norm().part(0) : top.a;
            case "sum":
                if (!in(n[1], 0, 2)) {
                    return OUTSIDE;
                }
                if (things == null) {
                    return NULL;
                }
                return things.stream().mapToInt(t -> n[1] == 0 ? t.a : !t.pair ? 0 : n[1] == 1 ? t.b : 1).sum();
            default:
                stores.set(n[0], null);
                return things == null ? NULL : things.size();
        }
    }

    private long answerCount(int what) {
        switch (what) {
            case 0:
                return net.buses.size();
            case 1:
                return net.volts;
            case 2:
                return stores.stream().mapToInt(s -> s == null ? 0 : s.size()).sum();
            case 3:
                return undone.size();
            case 4:
                return text.length();
            default:
                return OUTSIDE;
        }
    }
}
