/**
 * A desk for faults on a line of three phases, reckoned exactly, in fractions.
 *
 * Nothing is made after the constructor: every row and scratch number is made once and used
 * again, so that a long run of calls costs no more room than the first one.
 */
public final class FaultDesk {
    public static final int NONE = -1, UNKNOWN = -2000000001, OUTSIDE = -2000000002, NOT = -2000000003, OVER = -2000000004, NULL = -2000000011, EMPTY = -2000000012, CAST = -2000000013, ROOM = -2000000014;

    private static final int PHASES = 3, SORTS = 4, KINDS = 3, BUSES = 6, STORES = 3, KEEPS = 2;
    private static final int MOST_OHMS = 9, FIRST_VOLTS = 50, MOST_VOLTS = 99, MOST_LIMIT = 999;
    private static final int MOST_WHOLE = 9999, MOST_LETTER = 255, MOST_SHARE = 100;
    private static final int FINE = 0;

    // How often parts two and three are turned ahead of being added, for each of three results.
    private static final int[] SPLIT_TURNS = {0, 0, 1, 2, 2, 1};
    private static final int[] JOIN_TURNS = {0, 0, 2, 1, 1, 2};

    private final Text text;
    private final Net grid;
    private final Net draft;
    private final Three phases;
    private final Three result;
    private final Notes notes;
    private final Three[] kept;
    private final boolean[] isKept;
    private final Reckoner reckoner;
    private final Flow flow;
    private final Flow fall;
    private final Store[] stores;

    public FaultDesk() {
        text = new Text();
        grid = new Net();
        draft = new Net();
        phases = new Three();
        result = new Three();
        notes = new Notes();
        kept = new Three[] {new Three(), new Three()};
        isKept = new boolean[KEEPS];
        reckoner = new Reckoner();
        flow = new Flow();
        fall = new Flow();
        stores = new Store[] {new Store(), new Store(), new Store()};
    }

    // ---- what is told

    public int write(int letter) {
        if (isOutside(letter, 0, MOST_LETTER)) {
            return OUTSIDE;
        }
        return text.append(letter) ? text.length : NOT;
    }

    public int erase() {
        int had = text.length;
        text.length = 0;
        return had;
    }

    public int fault() {
        draft.become(grid);
        return text.readInto(draft);
    }

    public int net() {
        draft.become(grid);
        if (text.readInto(draft) != NONE) {
            return NOT;
        }
        grid.become(draft);
        text.length = 0;
        startAnew();
        return text.clauses;
    }

    public int bus(int bus, int what) {
        if (isNoBus(bus)) {
            return UNKNOWN;
        }
        switch (what) {
            case 0:
                return grid.hangsAt[bus];
            case 1:
            case 2:
            case 3:
                return grid.ohms[bus * KINDS + what - 1];
            case 4:
                return grid.limits[bus];
            case 5:
            case 6:
            case 7:
                return grid.ohmsUpTo(bus, what - 5);
            case 8:
                return grid.linesUpTo(bus);
            default:
                return OUTSIDE;
        }
    }

    // ---- phases

    public int phase(int phase, int a, int b, int c, int d) {
        if (isNoPhase(phase)) {
            return UNKNOWN;
        }
        if (isNoWhole(a) || isOutside(b, 1, MOST_WHOLE) || isNoWhole(c) || isOutside(d, 1, MOST_WHOLE)) {
            return OUTSIDE;
        }
        notes.add(phases);
        phases.numbers[phase].a.become(a, b);
        phases.numbers[phase].b.become(c, d);
        return 1;
    }

    public int split() {
        reckoner.combineAll(phases, SPLIT_TURNS, result);
        for (int i = 0; i < PHASES; i++) {
            result.numbers[i].divideByThree();
        }
        return takeResult();
    }

    public int join() {
        reckoner.combineAll(phases, JOIN_TURNS, result);
        return takeResult();
    }

    public int turn() {
        notes.add(phases);
        phases.rotate();
        return 1;
    }

    public int load(int sort, int bus, int f) {
        int refusal = askFault(sort, bus, f, false);
        if (refusal != FINE) {
            return refusal;
        }
        notes.add(phases);
        for (int i = 0; i < PHASES; i++) {
            phases.numbers[i].a.become(flow.a(i), flow.below);
            phases.numbers[i].b.become(flow.b(i), flow.below);
        }
        return 1;
    }

    public int undo() {
        return notes.giveBack(phases) ? notes.size : NOT;
    }

    public int keep(int k) {
        if (isOutside(k, 0, KEEPS - 1)) {
            return OUTSIDE;
        }
        kept[k].become(phases);
        isKept[k] = true;
        return 1;
    }

    public int back(int k) {
        if (isOutside(k, 0, KEEPS - 1)) {
            return OUTSIDE;
        }
        if (!isKept[k]) {
            return NOT;
        }
        phases.become(kept[k]);
        notes.size = 0;
        return 1;
    }

    public long told(int phase, int what, int part) {
        if (isNoPhase(phase)) {
            return UNKNOWN;
        }
        if (isOutside(what, 0, 2) || isOutside(part, 0, 1)) {
            return OUTSIDE;
        }
        Num number = phases.numbers[phase];
        if (what == 2) {
            return reckoner.normOf(number).tell(part);
        }
        return number.tell(what, part);
    }

    public long fold(int rule, int what, int part) {
        if (isOutside(rule, 0, 3) || isOutside(what, 0, 1) || isOutside(part, 0, 1)) {
            return OUTSIDE;
        }
        Num folded = reckoner.foldOf(phases, rule);
        return folded.isOver() ? OVER : folded.tell(what, part);
    }

    public int most(int what) {
        switch (what) {
            case 0:
                return reckoner.greatestOf(phases);
            case 1:
                return reckoner.areNormsAlike(phases);
            case 2:
                Num all = reckoner.foldOf(phases, 0);
                return all.isOver() ? OVER : asBit(all.isNought());
            default:
                return OUTSIDE;
        }
    }

    // ---- faults

    public long current(int sort, int bus, int f, int phase, int what, int part) {
        if (isNoPhase(phase)) {
            return UNKNOWN;
        }
        int refusal = askFault(sort, bus, f, isOutside(what, 0, 2) || isOutside(part, 0, 1));
        return refusal == FINE ? flow.tell(phase, what, part) : refusal;
    }

    public long voltage(int sort, int bus, int f, int at, int phase, int what, int part) {
        if (isNoBus(at) || isNoPhase(phase)) {
            return UNKNOWN;
        }
        int refusal = askFault(sort, bus, f, isOutside(what, 0, 2) || isOutside(part, 0, 1));
        if (refusal != FINE) {
            return refusal;
        }
        fall.becomeVoltage(grid, flow, grid.meetingOf(at, bus));
        return fall.tell(phase, what, part);
    }

    public int sag(int sort, int bus, int f, int p) {
        int refusal = askFault(sort, bus, f, isOutside(p, 0, MOST_SHARE));
        if (refusal != FINE) {
            return refusal;
        }
        int bits = 0;
        for (int at = 0; at < grid.buses; at++) {
            fall.becomeVoltage(grid, flow, grid.meetingOf(at, bus));
            if (fall.sagsBelow(grid.volts, p)) {
                bits |= 1 << at;
            }
        }
        return bits;
    }

    public int trips(int sort, int bus, int f) {
        int refusal = askFault(sort, bus, f, false);
        if (refusal != FINE) {
            return refusal;
        }
        int bits = 0;
        for (int step = 0, at = bus; step < BUSES && at > 0; step++, at = grid.hangsAt[at]) {
            if (grid.limits[at] > 0 && flow.exceeds(grid.limits[at])) {
                bits |= 1 << at;
            }
        }
        return bits;
    }

    public int worst(int sort, int f) {
        if (isNoSort(sort) || isNoOhms(f)) {
            return OUTSIDE;
        }
        int worst = NONE;
        long above = 0;
        long below = 1;
        for (int bus = 0; bus < grid.buses; bus++) {
            if (flow.takeFault(grid, sort, bus, f)) {
                long norm = flow.greatestNorm();
                long square = flow.below * flow.below;
                if (worst == NONE || norm * below > above * square) {
                    worst = bus;
                    above = norm;
                    below = square;
                }
            }
        }
        return worst;
    }

    public int match(int what) {
        if (isOutside(what, 0, 1)) {
            return OUTSIDE;
        }
        int many = 0;
        int first = NONE;
        for (int sort = 0; sort < SORTS; sort++) {
            for (int bus = 0; bus < grid.buses; bus++) {
                for (int f = 0; f <= MOST_OHMS; f++) {
                    if (flow.takeFault(grid, sort, bus, f) && flow.isAs(phases)) {
                        many++;
                        first = first == NONE ? 10000 * sort + 100 * bus + f : first;
                    }
                }
            }
        }
        return what == 0 ? many : first;
    }

    // ---- stores

    public int store(int store) {
        if (isNoStore(store)) {
            return UNKNOWN;
        }
        stores[store].isThere = true;
        stores[store].size = 0;
        return 0;
    }

    public int put(int store, int what, int a, int b) {
        if (isNoStore(store)) {
            return UNKNOWN;
        }
        if (isOutside(what, 0, 1) || isNoWhole(a) || isNoWhole(b)) {
            return OUTSIDE;
        }
        return stores[store].push(what == 1, a, b);
    }

    public int take(int store, int what) {
        if (isNoStore(store)) {
            return UNKNOWN;
        }
        return isOutside(what, 0, 1) ? OUTSIDE : stores[store].pop(what == 1);
    }

    public int sum(int store, int what) {
        if (isNoStore(store)) {
            return UNKNOWN;
        }
        return isOutside(what, 0, 2) ? OUTSIDE : stores[store].totalOf(what);
    }

    public int drop(int store) {
        if (isNoStore(store)) {
            return UNKNOWN;
        }
        return stores[store].isThere ? stores[store].vanish() : NULL;
    }

    public int count(int what) {
        switch (what) {
            case 0:
                return grid.buses;
            case 1:
                return grid.volts;
            case 2:
                return thingsOfAllStores();
            case 3:
                return notes.size;
            case 4:
                return text.length;
            default:
                return OUTSIDE;
        }
    }

    private static boolean isOutside(int number, int least, int greatest) {
        return number < least || number > greatest;
    }

    private static boolean isNoWhole(int number) {
        return isOutside(number, -MOST_WHOLE, MOST_WHOLE);
    }

    private static boolean isNoOhms(int f) {
        return isOutside(f, 0, MOST_OHMS);
    }

    private static boolean isNoSort(int sort) {
        return isOutside(sort, 0, SORTS - 1);
    }

    private static boolean isNoPhase(int phase) {
        return isOutside(phase, 0, PHASES - 1);
    }

    private static boolean isNoStore(int store) {
        return isOutside(store, 0, STORES - 1);
    }

    private boolean isNoBus(int bus) {
        return isOutside(bus, 0, grid.buses - 1);
    }

    private static int asBit(boolean fact) {
        return fact ? 1 : 0;
    }

    /** The flow becomes a fault's current, or it is told why not; a call's own bounds come ahead of NOT. */
    private int askFault(int sort, int bus, int f, boolean isElseOutside) {
        if (isNoBus(bus)) {
            return UNKNOWN;
        }
        if (isNoSort(sort) || isNoOhms(f) || isElseOutside) {
            return OUTSIDE;
        }
        return flow.takeFault(grid, sort, bus, f) ? FINE : NOT;
    }

    private int takeResult() {
        if (result.isOver()) {
            return OVER;
        }
        notes.add(phases);
        phases.become(result);
        return 1;
    }

    private int thingsOfAllStores() {
        int things = 0;
        for (int i = 0; i < STORES; i++) {
            things += stores[i].size;
        }
        return things;
    }

    private void startAnew() {
        phases.clear();
        notes.size = 0;
        for (int k = 0; k < KEEPS; k++) {
            isKept[k] = false;
        }
        for (int i = 0; i < STORES; i++) {
            stores[i].vanish();
        }
    }

    /**
     * Always in lowest terms. A step beyond the bounds leaves it over, and what is reckoned from
     * one that is over is over too: so a chain of steps is looked at once, at its end.
     */
    private static final class Fraction {
        static final long BOUND = 1000000000L;
        // Two longs of the greatest size need fewer steps than this.
        static final int DIVISOR_STEPS = 100;

        long above = 0;
        long below = 1;
        boolean isOver = false;

        static long divisorOf(long x, long y) {
            long p = x < 0 ? -x : x;
            long q = y < 0 ? -y : y;
            for (int step = 0; step < DIVISOR_STEPS && q != 0; step++) {
                long rest = p % q;
                p = q;
                q = rest;
            }
            return p < 1 ? 1 : p;
        }

        void become(Fraction other) {
            above = other.above;
            below = other.below;
            isOver = other.isOver;
        }

        void become(long over, long under) {
            long divisor = divisorOf(over, under);
            if (under < 1 || divisor < 1) {
                spoil();
                return;
            }
            above = over / divisor;
            below = under / divisor;
            isOver = false;
            if (above > BOUND || above < -BOUND || below > BOUND) {
                spoil();
            }
        }

        // Small parts stay behind, so that no later step can run out of a long.
        void spoil() {
            above = 0;
            below = 1;
            isOver = true;
        }

        /** Adds what another is, times 1 or -1. */
        void add(Fraction other, int sign) {
            long divisor = divisorOf(below, other.below);
            if (isOver || other.isOver || divisor < 1) {
                spoil();
                return;
            }
            long mine = other.below / divisor;
            long theirs = below / divisor;
            become(above * mine + sign * other.above * theirs, below * mine);
        }

        void multiply(Fraction other) {
            if (isOver || other.isOver) {
                spoil();
                return;
            }
            become(above * other.above, below * other.below);
        }

        void divideByThree() {
            if (!isOver) {
                become(above, below * 3);
            }
        }

        void negate() {
            above = -above;
        }

        boolean isMoreThan(Fraction other) {
            return above * other.below > other.above * below;
        }

        boolean isAs(Fraction other) {
            return above == other.above && below == other.below;
        }

        long tell(int part) {
            if (isOver) {
                return OVER;
            }
            return part == 0 ? above : below;
        }
    }

    /** a and b w, with w w being -1 - w. */
    private static final class Num {
        Fraction a = new Fraction();
        Fraction b = new Fraction();

        void become(Num other) {
            a.become(other.a);
            b.become(other.b);
        }

        void clear() {
            a.become(0, 1);
            b.become(0, 1);
        }

        /** Adds what another is, times 1 or -1. */
        void add(Num other, int sign) {
            a.add(other.a, sign);
            b.add(other.b, sign);
        }

        // (a and b w) times w is -b and (a less b) w.
        void rotateOnce() {
            a.add(b, -1);
            b.negate();
            Fraction difference = a;
            a = b;
            b = difference;
        }

        void divideByThree() {
            a.divideByThree();
            b.divideByThree();
        }

        boolean isOver() {
            return a.isOver || b.isOver;
        }

        boolean isNought() {
            return a.above == 0 && b.above == 0;
        }

        long tell(int what, int part) {
            return what == 0 ? a.tell(part) : b.tell(part);
        }
    }

    /** Three numbers: the phases, or the parts that they are split into. */
    private static final class Three {
        final Num[] numbers = new Num[] {new Num(), new Num(), new Num()};

        void become(Three other) {
            for (int i = 0; i < PHASES; i++) {
                numbers[i].become(other.numbers[i]);
            }
        }

        void clear() {
            for (int i = 0; i < PHASES; i++) {
                numbers[i].clear();
            }
        }

        void rotate() {
            Num first = numbers[0];
            numbers[0] = numbers[1];
            numbers[1] = numbers[2];
            numbers[2] = first;
        }

        boolean isOver() {
            return numbers[0].isOver() || numbers[1].isOver() || numbers[2].isOver();
        }
    }

    /** What the phases were ahead of each of the last deeds; the oldest makes room for the newest. */
    private static final class Notes {
        static final int MOST = 8;

        final Three[] earlier = new Three[MOST];
        int size = 0;
        int next = 0;

        Notes() {
            for (int i = 0; i < MOST; i++) {
                earlier[i] = new Three();
            }
        }

        void add(Three phases) {
            earlier[next].become(phases);
            next = (next + 1) % MOST;
            size = Math.min(size + 1, MOST);
        }

        boolean giveBack(Three phases) {
            if (size == 0) {
                return false;
            }
            next = (next + MOST - 1) % MOST;
            size--;
            phases.become(earlier[next]);
            return true;
        }
    }

    /** Reckons with phases within the bounds, in the document's order of steps. */
    private static final class Reckoner {
        private final Num total = new Num();
        private final Num turned = new Num();
        private final Fraction product = new Fraction();
        private final Fraction norm = new Fraction();
        private final Fraction otherNorm = new Fraction();

        void combineAll(Three from, int[] turns, Three to) {
            for (int i = 0; i < PHASES; i++) {
                Num number = to.numbers[i];
                number.become(from.numbers[0]);
                addTurned(number, from.numbers[1], turns[2 * i]);
                addTurned(number, from.numbers[2], turns[2 * i + 1]);
            }
        }

        private void addTurned(Num number, Num other, int turns) {
            turned.become(other);
            for (int i = 0; i < turns; i++) {
                turned.rotateOnce();
            }
            number.add(turned, 1);
        }

        Fraction normOf(Num number) {
            reckonNorm(number, norm);
            return norm;
        }

        private void reckonNorm(Num number, Fraction into) {
            into.become(number.a);
            into.multiply(number.a);
            product.become(number.a);
            product.multiply(number.b);
            into.add(product, -1);
            product.become(number.b);
            product.multiply(number.b);
            into.add(product, 1);
        }

        Num foldOf(Three phases, int rule) {
            total.clear();
            for (int i = 0; i < PHASES; i++) {
                Num each = phases.numbers[i];
                switch (rule) {
                    case 0:
                        total.add(each, 1);
                        break;
                    case 1:
                        total.rotateOnce();
                        total.add(each, 1);
                        break;
                    case 2:
                        takeGreater(each);
                        break;
                    default:
                        total.add(each, -1);
                        break;
                }
            }
            return total;
        }

        private void takeGreater(Num each) {
            reckonNorm(total, norm);
            reckonNorm(each, otherNorm);
            if (norm.isOver || otherNorm.isOver) {
                total.a.spoil();
            } else if (otherNorm.isMoreThan(norm)) {
                total.become(each);
            }
        }

        int greatestOf(Three phases) {
            int greatest = 0;
            reckonNorm(phases.numbers[0], norm);
            boolean isOver = norm.isOver;
            for (int i = 1; i < PHASES; i++) {
                reckonNorm(phases.numbers[i], otherNorm);
                isOver |= otherNorm.isOver;
                if (otherNorm.isMoreThan(norm)) {
                    greatest = i;
                    norm.become(otherNorm);
                }
            }
            return isOver ? OVER : greatest;
        }

        int areNormsAlike(Three phases) {
            boolean areAlike = true;
            reckonNorm(phases.numbers[0], norm);
            boolean isOver = norm.isOver;
            for (int i = 1; i < PHASES; i++) {
                reckonNorm(phases.numbers[i], otherNorm);
                isOver |= otherNorm.isOver;
                areAlike &= otherNorm.isAs(norm);
            }
            return isOver ? OVER : asBit(areAlike);
        }
    }

    /** The source and the tree of buses; bus 0 bears the resistances of the source as its line's. */
    private static final class Net {
        int volts = FIRST_VOLTS;
        int buses = 0;
        final int[] hangsAt = new int[BUSES];
        final int[] ohms = new int[BUSES * KINDS];
        final int[] limits = new int[BUSES];

        Net() {
            restart(FIRST_VOLTS);
        }

        void restart(int newVolts) {
            volts = newVolts;
            buses = 0;
            hang(NONE, 1, 1, 1);
        }

        void become(Net other) {
            volts = other.volts;
            buses = other.buses;
            System.arraycopy(other.hangsAt, 0, hangsAt, 0, BUSES);
            System.arraycopy(other.ohms, 0, ohms, 0, BUSES * KINDS);
            System.arraycopy(other.limits, 0, limits, 0, BUSES);
        }

        void hang(int at, int p, int q, int r) {
            if (isFull()) {
                return;
            }
            hangsAt[buses] = at;
            limits[buses] = 0;
            resist(buses, p, q, r);
            buses++;
        }

        void resist(int bus, int p, int q, int r) {
            ohms[bus * KINDS] = p;
            ohms[bus * KINDS + 1] = q;
            ohms[bus * KINDS + 2] = r;
        }

        boolean isFull() {
            return buses >= BUSES;
        }

        int ohmsUpTo(int bus, int kind) {
            int together = ohms[kind];
            for (int step = 0, at = bus; step < BUSES && at > 0; step++, at = hangsAt[at]) {
                together += ohms[at * KINDS + kind];
            }
            return together;
        }

        int linesUpTo(int bus) {
            int lines = 0;
            for (int at = bus; lines < BUSES && at > 0; at = hangsAt[at]) {
                lines++;
            }
            return lines;
        }

        // A bus hangs at one of less number, so the greater of two is never on the other's way.
        int meetingOf(int one, int other) {
            int x = one;
            int y = other;
            for (int step = 0; step < 2 * BUSES && x != y; step++) {
                if (x > y) {
                    x = hangsAt[x];
                } else {
                    y = hangsAt[y];
                }
            }
            return x;
        }
    }

    /** The letters written, and how they are read, token by token, to the first fault. */
    private static final class Text {
        static final int MOST_LETTERS = 200, MOST_CLAUSES = 24, MOST_DIGITS = 3;
        static final int END = 0, WORD = 1, DIGITS = 2, SIGN = 3;
        static final String NET = "net", SOURCE = "source", BUS = "bus", RELAY = "relay";

        final int[] letters = new int[MOST_LETTERS];
        int length = 0;
        int clauses = 0;
        private int kind = END;
        private int start = 0;
        private int end = 0;
        private final int[] numbers = new int[4];

        boolean append(int letter) {
            if (length >= MOST_LETTERS) {
                return false;
            }
            letters[length] = letter;
            length++;
            return true;
        }

        /** Does the clauses on a net, up to the fault: its place, or NONE. */
        int readInto(Net net) {
            end = 0;
            boolean goesOn = true;
            for (clauses = 0; goesOn && clauses < MOST_CLAUSES; clauses++) {
                if (!readClause(net)) {
                    return start;
                }
                step();
                goesOn = isSemicolon();
            }
            // Behind the last clause that there may be, even a semicolon cannot stand.
            return kind == END ? NONE : start;
        }

        private boolean readClause(Net net) {
            step();
            if (isWord(NET)) {
                if (!readNumber(0, 1, MOST_VOLTS)) {
                    return false;
                }
                net.restart(numbers[0]);
            } else if (isWord(SOURCE)) {
                if (!readOhms()) {
                    return false;
                }
                net.resist(0, numbers[1], numbers[2], numbers[3]);
            } else if (isWord(BUS)) {
                if (net.isFull() || !readNumber(0, 0, net.buses - 1) || !readOhms()) {
                    return false;
                }
                net.hang(numbers[0], numbers[1], numbers[2], numbers[3]);
            } else if (isWord(RELAY)) {
                if (!readNumber(0, 1, net.buses - 1) || !readNumber(1, 0, MOST_LIMIT)) {
                    return false;
                }
                net.limits[numbers[0]] = numbers[1];
            } else {
                return false;
            }
            return true;
        }

        private boolean readOhms() {
            return readNumber(1, 0, MOST_OHMS) && readNumber(2, 0, MOST_OHMS) && readNumber(3, 0, MOST_OHMS);
        }

        private boolean readNumber(int slot, int least, int greatest) {
            step();
            if (kind != DIGITS || end - start > MOST_DIGITS) {
                return false;
            }
            int number = 0;
            for (int i = start; i < end; i++) {
                number = 10 * number + letters[i] - '0';
            }
            numbers[slot] = number;
            return number >= least && number <= greatest;
        }

        private void step() {
            start = end;
            while (start < length && letters[start] == ' ') {
                start++;
            }
            end = start;
            kind = start < length ? kindOf(letters[start]) : END;
            while (end < length && kindOf(letters[end]) == kind) {
                end++;
            }
            if (kind == SIGN) {
                end = start + 1;
            }
        }

        private static int kindOf(int letter) {
            if (letter >= 'a' && letter <= 'z') {
                return WORD;
            }
            return letter >= '0' && letter <= '9' ? DIGITS : SIGN;
        }

        private boolean isSemicolon() {
            return kind == SIGN && letters[start] == ';';
        }

        private boolean isWord(String word) {
            if (kind != WORD || end - start != word.length()) {
                return false;
            }
            for (int i = 0; i < word.length(); i++) {
                if (letters[start + i] != word.charAt(i)) {
                    return false;
                }
            }
            return true;
        }
    }

    /**
     * Three parts as wholes over one divisor, and the phases put back from them. By the bounds of
     * a net all of it, norms too, stays so far inside a long that nothing here can be over.
     */
    private static final class Flow {
        long part0 = 0;
        long part1 = 0;
        long part2 = 0;
        long below = 1;

        private void become(long zero, long one, long two, long divisor) {
            part0 = zero;
            part1 = one;
            part2 = two;
            below = divisor;
        }

        /** Takes the current of a fault; false where there is none such. */
        boolean takeFault(Net net, int sort, int bus, int f) {
            long v = net.volts;
            long z0 = net.ohmsUpTo(bus, 0);
            long z1 = net.ohmsUpTo(bus, 1);
            long z2 = net.ohmsUpTo(bus, 2);
            switch (sort) {
                case 0:
                    become(v, v, v, z0 + z1 + z2 + 3 * f);
                    break;
                case 1:
                    become(0, v, -v, z1 + z2 + f);
                    break;
                case 2:
                    long g = z0 + 3 * f;
                    become(-v * z2, v * (z2 + g), -v * g, z1 * z2 + z1 * g + z2 * g);
                    break;
                default:
                    become(0, v, 0, z1 + f);
                    break;
            }
            return below > 0;
        }

        void becomeVoltage(Net net, Flow current, int meeting) {
            long s0 = net.ohmsUpTo(meeting, 0);
            long s1 = net.ohmsUpTo(meeting, 1);
            long s2 = net.ohmsUpTo(meeting, 2);
            become(-s0 * current.part0, net.volts * current.below - s1 * current.part1, -s2 * current.part2, current.below);
        }

        // With w w being -1 - w, putting back needs no turns but differences of the parts.
        long a(int phase) {
            if (phase == 0) {
                return part0 + part1 + part2;
            }
            return phase == 1 ? part0 - part1 : part0 - part2;
        }

        long b(int phase) {
            if (phase == 0) {
                return 0;
            }
            return phase == 1 ? part2 - part1 : part1 - part2;
        }

        // Above the square of the divisor.
        long norm(int phase) {
            long a = a(phase);
            long b = b(phase);
            return a * a - a * b + b * b;
        }

        long greatestNorm() {
            return Math.max(norm(0), Math.max(norm(1), norm(2)));
        }

        long leastNorm() {
            return Math.min(norm(0), Math.min(norm(1), norm(2)));
        }

        boolean exceeds(long limit) {
            return greatestNorm() > limit * limit * below * below;
        }

        boolean sagsBelow(long volts, long p) {
            return leastNorm() * 10000 < volts * volts * p * p * below * below;
        }

        boolean isAs(Three phases) {
            boolean isAlike = true;
            for (int i = 0; i < PHASES; i++) {
                Num number = phases.numbers[i];
                isAlike &= isFraction(a(i), number.a) && isFraction(b(i), number.b);
            }
            return isAlike;
        }

        private boolean isFraction(long above, Fraction other) {
            return above * other.below == other.above * below;
        }

        long tell(int phase, int what, int part) {
            if (what == 2) {
                return tellFraction(norm(phase), below * below, part);
            }
            return tellFraction(what == 0 ? a(phase) : b(phase), below, part);
        }

        private static long tellFraction(long above, long under, int part) {
            long divisor = Fraction.divisorOf(above, under);
            if (divisor < 1) {
                return NOT;
            }
            return part == 0 ? above / divisor : under / divisor;
        }
    }

    /** A pile of wholes and pairs; a whole is held with no w at all. */
    private static final class Store {
        static final int MOST = 8;

        boolean isThere = false;
        int size = 0;
        private final int[] as = new int[MOST];
        private final int[] bs = new int[MOST];
        private final boolean[] arePairs = new boolean[MOST];

        int push(boolean isPair, int a, int b) {
            if (!isThere) {
                return NULL;
            }
            if (size >= MOST) {
                return ROOM;
            }
            as[size] = a;
            bs[size] = isPair ? b : 0;
            arePairs[size] = isPair;
            size++;
            return size;
        }

        int pop(boolean isPair) {
            if (!isThere) {
                return NULL;
            }
            if (size < 1) {
                return EMPTY;
            }
            if (arePairs[size - 1] != isPair) {
                return CAST;
            }
            size--;
            int a = as[size];
            int b = bs[size];
            return isPair ? a * a - a * b + b * b : a;
        }

        int totalOf(int what) {
            if (!isThere) {
                return NULL;
            }
            int total = 0;
            for (int i = 0; i < size; i++) {
                if (what == 2) {
                    total += arePairs[i] ? 1 : 0;
                } else {
                    total += what == 0 ? as[i] : bs[i];
                }
            }
            return total;
        }

        int vanish() {
            int had = size;
            isThere = false;
            size = 0;
            return had;
        }
    }
}
