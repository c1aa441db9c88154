/** The edges of faults: where there is none such, what sags and trips just not, and promises 18 to 23. */
final class FaultEdges {
    // Z 0, 1, 2 of the buses: 0 0 0, 1 0 0, 0 1 0, 0 0 1, 1 1 0, 0 1 1.
    private static final String FEW_OHMS = """
        done "net 9;source 0 0 0;bus 0 1 0 0;bus 0 0 1 0;bus 0 0 0 1;bus 0 1 1 0;bus 0 0 1 1"
        """;
    // Z 0, 1, 2 of the buses: 0 2 1, 3 3 2, 12 7 5, 3 5 4, 18 8 5, 2 4 3; 1 and 5 hang at 0, 2 and 3 at 1, 4 at 2.
    private static final String TREE = """
        done "net 60;source 0 2 1;bus 0 3 1 1;bus 1 9 4 3;bus 1 0 2 2;bus 2 6 1 0;bus 0 2 2 2"
        """;
    private static final String NO_FAULT = "Where one is by 0 there is no such FAULT.";

    private final Sentences sentences;

    private FaultEdges(Sentences sentences) {
        this.sentences = sentences;
    }

    static void hold(Sentences sentences) {
        FaultEdges edges = new FaultEdges(sentences);
        edges.noneSuch();
        edges.resistanceOfFault();
        edges.current();
        edges.voltage();
        edges.sag();
        edges.trips();
        edges.worst();
        edges.match();
        edges.neverOver();
    }

    private void terms(String words, String lines) {
        sentences.hold("Terms", words, lines);
    }

    private void noneSuch() {
        terms("SORT 0 (one to ground): each V by (z0 and z1 and z2 and 3 f).", FEW_OHMS + """
            current(0, 1, 0, 0, 0) = 27/1
            current(0, 2, 0, 0, 0) = 27/1
            current(0, 3, 0, 0, 0) = 27/1
            current(0, 4, 0, 0, 0) = 27/2
            current(0, 0, 1, 0, 0) = 9/1
            current(0, 0, 1, 1, 0) = 0/1
            current(0, 0, 1, 2, 2) = 0/1
            """);
        terms("part 0 is 0, part 1 is V by (z1 and z2 and f), part 2 that less than 0.", FEW_OHMS + """
            current(1, 2, 0, 0, 0) = 0/1
            current(1, 2, 0, 1, 0) = -9/1
            current(1, 2, 0, 1, 1) = -18/1
            current(1, 2, 0, 2, 0) = 9/1
            current(1, 2, 0, 2, 1) = 18/1
            current(1, 3, 0, 1, 1) = -18/1
            current(1, 5, 0, 1, 1) = -9/1
            current(1, 0, 1, 1, 1) = -18/1
            """);
        terms("part 1 is V (z2 and g) by d, part 2 is V g by d less than 0, part 0 is V z2 by d less than 0.", FEW_OHMS + """
            current(2, 4, 0, 1, 0) = -9/1
            current(2, 4, 0, 1, 1) = -18/1
            current(2, 5, 0, 0, 0) = 0/1
            current(2, 5, 0, 1, 0) = -18/1
            current(2, 5, 0, 1, 1) = -9/1
            current(2, 5, 0, 2, 0) = -9/1
            current(2, 5, 0, 2, 1) = 9/1
            current(2, 2, 1, 1, 1) = -18/1
            current(2, 3, 1, 1, 0) = -15/1
            current(2, 3, 1, 1, 1) = -21/1
            current(2, 3, 1, 2, 0) = 6/1
            current(2, 3, 1, 2, 1) = 21/1
            """);
        terms("SORT 3 (three): part 1 is V by (z1 and f), others 0.", FEW_OHMS + """
            current(3, 2, 0, 0, 0) = 9/1
            current(3, 2, 0, 1, 0) = -9/1
            current(3, 2, 0, 1, 1) = -9/1
            current(3, 2, 0, 2, 0) = 0/1
            current(3, 2, 0, 2, 1) = 9/1
            current(3, 0, 1, 0, 0) = 9/1
            """);
        terms(NO_FAULT, FEW_OHMS + """
            current(0, 0, 0, 0, 0, 0) = NOT
            current(1, 0, 0, 0, 0, 0) = NOT
            current(1, 1, 0, 0, 0, 0) = NOT
            current(2, 0, 0, 0, 0, 0) = NOT
            current(2, 1, 0, 0, 0, 0) = NOT
            current(2, 2, 0, 0, 0, 0) = NOT
            current(2, 3, 0, 0, 0, 0) = NOT
            current(2, 0, 1, 0, 0, 0) = NOT
            current(2, 0, 9, 0, 0, 0) = NOT
            current(2, 1, 9, 0, 0, 0) = NOT
            current(3, 0, 0, 0, 0, 0) = NOT
            current(3, 1, 0, 0, 0, 0) = NOT
            current(3, 3, 0, 0, 0, 0) = NOT
            """);
    }

    private void resistanceOfFault() {
        terms("A FAULT of a SORT at a BUS, by a RESISTANCE f (0 .. 9)", """
            current(3, 0, 0, 0, 0) = 50/1
            current(3, 0, 9, 0, 0) = 5/1
            current(3, 0, -1, 0, 0, 0) = OUTSIDE
            current(3, 0, 10, 0, 0, 0) = OUTSIDE
            voltage(3, 0, 9, 0, 0, 0) = 45/1
            voltage(3, 0, 10, 0, 0, 0, 0) = OUTSIDE
            voltage(3, 0, -1, 0, 0, 0, 0) = OUTSIDE
            sag(3, 0, 9, 91) = 1
            sag(3, 0, 10, 91) = OUTSIDE
            sag(3, 0, -1, 91) = OUTSIDE
            trips(3, 0, 9) = 0
            trips(3, 0, 10) = OUTSIDE
            trips(3, 0, -1) = OUTSIDE
            worst(3, 9) = 0
            worst(3, 10) = OUTSIDE
            worst(3, -1) = OUTSIDE
            load(3, 0, 9) = 1
            load(3, 0, 10) = OUTSIDE
            load(3, 0, -1) = OUTSIDE
            """);
    }

    private void current() {
        sentences.hold("Promise 18", "a (what 0), b of w (1), NORM (2).", TREE + """
            current(1, 1, 1, 1, 0) = -10/1
            current(1, 1, 1, 1, 1) = -20/1
            current(1, 1, 1, 1, 2) = 300/1
            current(2, 1, 1, 1, 2) = 1300/3
            """);
        sentences.hold("Promise 18", "UNKNOWN; OUTSIDE; NOT: there is none such.", FEW_OHMS + """
            current(0, 5, 0, 0, 0, 0) = 27
            current(3, 5, 9, 2, 2, 1) = 100
            current(0, -1, 0, 0, 0, 0) = UNKNOWN
            current(0, 6, 0, 0, 0, 0) = UNKNOWN
            current(0, 1, 0, -1, 0, 0) = UNKNOWN
            current(0, 1, 0, 3, 0, 0) = UNKNOWN
            current(-1, 1, 0, 0, 0, 0) = OUTSIDE
            current(4, 1, 0, 0, 0, 0) = OUTSIDE
            current(0, 1, 0, 0, -1, 0) = OUTSIDE
            current(0, 1, 0, 0, 3, 0) = OUTSIDE
            current(0, 1, 0, 0, 0, -1) = OUTSIDE
            current(0, 1, 0, 0, 0, 2) = OUTSIDE
            current(0, 0, 0, 0, 0, 0) = NOT
            current(4, 6, 0, 0, 0, 0) = UNKNOWN
            current(0, 0, 10, 3, 0, 0) = UNKNOWN
            current(0, 0, 0, 0, 3, 0) = OUTSIDE
            current(0, 0, 0, 0, 0, 2) = OUTSIDE
            """);
    }

    private void voltage() {
        terms("the last BUS that is on both ways to SOURCE (of that BUS, of the one of the FAULT)", TREE + """
            voltage(3, 4, 2, 4, 0, 0) = 12/1
            voltage(3, 4, 2, 2, 0, 0) = 18/1
            voltage(3, 4, 2, 1, 0, 0) = 42/1
            voltage(3, 4, 2, 3, 0, 0) = 42/1
            voltage(3, 4, 2, 5, 0, 0) = 48/1
            voltage(3, 4, 2, 0, 0, 0) = 48/1
            voltage(3, 0, 1, 4, 0, 0) = 20/1
            voltage(3, 0, 1, 0, 0, 0) = 20/1
            voltage(3, 2, 3, 4, 0, 0) = 18/1
            voltage(3, 2, 3, 3, 0, 0) = 42/1
            voltage(3, 3, 5, 2, 0, 0) = 42/1
            voltage(3, 5, 2, 4, 0, 0) = 40/1
            """);
        terms("0: less s0 times part 0 of the current; 1: V, less s1 times part 1; 2: less s2 times part 2.", TREE + """
            voltage(0, 1, 4, 1, 0, 0) = 36/1
            voltage(0, 1, 4, 0, 0, 0) = 51/1
            voltage(0, 1, 4, 0, 1, 0) = -54/1
            voltage(0, 1, 4, 0, 1, 1) = -57/1
            voltage(0, 1, 4, 0, 2, 0) = 3/1
            voltage(0, 1, 4, 0, 2, 1) = 57/1
            voltage(0, 1, 4, 0, 2, 2) = 3087/1
            """);
        sentences.hold("Promise 19", "UNKNOWN (either BUS, the PHASE); OUTSIDE; NOT.", FEW_OHMS + """
            voltage(0, 5, 0, 5, 2, 2) = 243/4
            voltage(3, 5, 9, 0, 0, 0, 0) = 9
            voltage(0, -1, 0, 0, 0, 0, 0) = UNKNOWN
            voltage(0, 6, 0, 0, 0, 0, 0) = UNKNOWN
            voltage(0, 5, 0, -1, 0, 0, 0) = UNKNOWN
            voltage(0, 5, 0, 6, 0, 0, 0) = UNKNOWN
            voltage(0, 5, 0, 0, -1, 0, 0) = UNKNOWN
            voltage(0, 5, 0, 0, 3, 0, 0) = UNKNOWN
            voltage(-1, 5, 0, 0, 0, 0, 0) = OUTSIDE
            voltage(4, 5, 0, 0, 0, 0, 0) = OUTSIDE
            voltage(0, 5, 0, 0, 0, -1, 0) = OUTSIDE
            voltage(0, 5, 0, 0, 0, 3, 0) = OUTSIDE
            voltage(0, 5, 0, 0, 0, 0, -1) = OUTSIDE
            voltage(0, 5, 0, 0, 0, 0, 2) = OUTSIDE
            voltage(0, 0, 0, 0, 0, 0, 0) = NOT
            voltage(0, 0, 0, 5, 0, 0, 0) = NOT
            voltage(4, 0, 0, 6, 0, 0, 0) = UNKNOWN
            voltage(0, 0, 0, 5, 3, 3, 0) = UNKNOWN
            voltage(0, 0, 0, 5, 0, 3, 0) = OUTSIDE
            voltage(0, 0, 0, 5, 0, 0, 2) = OUTSIDE
            voltage(0, 0, 10, 5, 0, 0, 0) = OUTSIDE
            """);
    }

    private void sag() {
        terms("BUSES at which in some PHASE the NORM of VOLTAGE is less than V V p p by 10000.", TREE + """
            sag(3, 4, 2, 20) = 0
            sag(3, 4, 2, 21) = 16
            sag(3, 4, 2, 30) = 16
            sag(3, 4, 2, 31) = 20
            sag(3, 4, 2, 70) = 20
            sag(3, 4, 2, 71) = 30
            sag(3, 4, 2, 80) = 30
            sag(3, 4, 2, 81) = 63
            sag(1, 1, 0, 40) = 0
            sag(1, 1, 0, 41) = 30
            sag(1, 1, 0, 52) = 30
            sag(1, 1, 0, 53) = 63
            sag(0, 1, 4, 60) = 0
            sag(0, 1, 4, 61) = 30
            """);
        // The share of bus 0 is 62.9998.
        terms("is less than V V p p by 10000.", """
            done "net 5;source 2 5 1;bus 0 6 9 0"
            sag(2, 1, 1, 1) = 0
            sag(2, 1, 1, 2) = 2
            sag(2, 1, 1, 62) = 2
            sag(2, 1, 1, 63) = 3
            """);
        terms("SAG by p (0 .. 100)", TREE + """
            sag(3, 4, 0, 0) = 0
            sag(3, 4, 0, 1) = 16
            sag(3, 4, 0, 100) = 63
            sag(3, 4, 0, -1) = OUTSIDE
            sag(3, 4, 0, 101) = OUTSIDE
            """ + FEW_OHMS + """
            sag(3, 0, 1, 100) = 0
            sag(3, 2, 1, 100) = 4
            """);
        sentences.hold("Promise 20", "UNKNOWN; OUTSIDE; NOT: there is none such FAULT.", FEW_OHMS + """
            sag(0, 5, 0, 0) = 0
            sag(3, 5, 9, 100) = 32
            sag(0, -1, 0, 0) = UNKNOWN
            sag(0, 6, 0, 0) = UNKNOWN
            sag(-1, 5, 0, 0) = OUTSIDE
            sag(4, 5, 0, 0) = OUTSIDE
            sag(0, 0, 0, 0) = NOT
            sag(0, 0, 0, 100) = NOT
            sag(0, 0, 0, 101) = OUTSIDE
            sag(4, 6, 0, 101) = UNKNOWN
            """);
    }

    private void trips() {
        String net = "done \"net 60;source 0 1 0;bus 0 0 1 0;bus 1 0 1 0;bus 0 0 0 0;relay 1 20;relay 2 19;relay 3 1\"\n";
        terms("for which in some PHASE the NORM of the current is more than LIMIT times LIMIT.", net + """
            trips(3, 2, 0) = 4
            done "relay 1 19;relay 2 20"
            trips(3, 2, 0) = 2
            done "relay 1 51;relay 2 999"
            trips(1, 1, 0) = 2
            trips(0, 1, 0) = 2
            trips(3, 2, 0) = 0
            done "relay 1 52"
            trips(1, 1, 0) = 0
            trips(0, 1, 0) = 2
            done "relay 1 89"
            trips(0, 1, 0) = 2
            done "relay 1 90"
            trips(0, 1, 0) = 0
            """);
        terms("LINES (told by their BUS) with a LIMIT, on the way from SOURCE to the BUS of the FAULT", net + """
            trips(3, 0, 0) = 0
            trips(3, 1, 0) = 2
            trips(3, 3, 0) = 8
            done "relay 2 0"
            trips(3, 2, 0) = 0
            done "relay 1 1"
            trips(3, 2, 0) = 2
            trips(3, 3, 0) = 8
            trips(3, 0, 0) = 0
            """);
        sentences.hold("Promise 21", "(bit b for the LINE of BUS b)", """
            done "net 99;source 0 1 0;bus 0 0 0 0;bus 1 0 0 0;bus 2 0 0 0;bus 3 0 0 0;bus 4 0 0 0;relay 1 1;relay 2 1;relay 3 1"
            done "relay 4 1;relay 5 1"
            trips(3, 0, 0) = 0
            trips(3, 1, 0) = 2
            trips(3, 2, 0) = 6
            trips(3, 3, 0) = 14
            trips(3, 4, 0) = 30
            trips(3, 5, 0) = 62
            """);
        sentences.hold("Promise 21", "UNKNOWN; OUTSIDE; NOT.", FEW_OHMS + """
            trips(0, 5, 0) = 0
            trips(3, 5, 9) = 0
            trips(0, -1, 0) = UNKNOWN
            trips(0, 6, 0) = UNKNOWN
            trips(-1, 5, 0) = OUTSIDE
            trips(4, 5, 0) = OUTSIDE
            trips(0, 0, 0) = NOT
            trips(4, 0, 0) = OUTSIDE
            trips(0, 0, 10) = OUTSIDE
            trips(4, 6, 10) = UNKNOWN
            """);
    }

    private void worst() {
        terms("the BUS at which the greatest NORM of a PHASE's current is greatest, of like ones the least; none.", FEW_OHMS + """
            worst(0, 0) = 1
            worst(0, 1) = 0
            worst(1, 0) = 2
            worst(1, 1) = 0
            worst(2, 0) = 4
            worst(2, 1) = 3
            worst(3, 0) = 2
            worst(3, 1) = 0
            done "net 9;source 0 0 0;bus 0 5 5 5;bus 0 4 4 4;bus 0 4 4 4"
            worst(0, 0) = 2
            worst(3, 0) = 2
            done "net 9;source 0 0 0;bus 0 0 0 2;bus 0 0 1 0;bus 0 1 1 0"
            worst(2, 1) = 2
            done "net 9;source 0 0 0;bus 0 1 0 1;bus 0 0 0 1"
            worst(2, 1) = 2
            done "net 9;source 0 0 0;bus 0 0 1 0;bus 0 0 0 2"
            worst(2, 1) = 1
            """);
        sentences.hold("Promise 22", "WORST; NONE. OUTSIDE.", """
            worst(0, 0) = 0
            worst(3, 9) = 0
            worst(-1, 0) = OUTSIDE
            worst(4, 0) = OUTSIDE
            worst(0, -1) = OUTSIDE
            worst(0, 10) = OUTSIDE
            done "net 9;source 0 0 0;bus 0 0 0 0"
            worst(0, 0) = NONE
            worst(1, 0) = NONE
            worst(2, 0) = NONE
            worst(2, 9) = NONE
            worst(3, 0) = NONE
            worst(3, 1) = 0
            worst(4, 0) = OUTSIDE
            """);
    }

    private void match() {
        terms("MATCH: FAULTS (f 0 .. 9) of which the currents are just PHASES.", """
            done "net 60;source 0 1 0"
            phase(0, 60, 1, 0, 1) = 1
            phase(1, -60, 1, -60, 1) = 1
            phase(2, 0, 1, 60, 1) = 1
            match(0) = 1
            match(1) = 30000
            phase(0, 6, 1, 0, 1) = 1
            phase(1, -6, 1, -6, 1) = 1
            phase(2, 0, 1, 6, 1) = 1
            match(0) = 1
            match(1) = 30009
            phase(0, 60, 11, 0, 1) = 1
            phase(1, -60, 11, -60, 11) = 1
            phase(2, 0, 1, 60, 11) = 1
            match(0) = 0
            match(1) = NONE
            """);
        terms("of which the currents are just PHASES.", """
            done "net 60;source 0 1 0"
            load(3, 0, 0) = 1
            match(0) = 1
            phase(0, 60, 1, 1, 9999) = 1
            match(0) = 0
            load(3, 0, 0) = 1
            phase(1, -60, 1, -61, 1) = 1
            match(0) = 0
            load(3, 0, 0) = 1
            phase(2, 1, 9999, 60, 1) = 1
            match(0) = 0
            load(3, 0, 0) = 1
            turn() = 1
            match(0) = 0
            """);
        sentences.hold("Promise 23", "how many (what 0), the first (1: 10000 times the SORT, 100 times the BUS, and f; NONE): of the least such number.", """
            match(0) = 0
            match(1) = NONE
            load(0, 0, 0) = 1
            match(0) = 1
            match(1) = 0
            load(0, 0, 9) = 1
            match(1) = 9
            done "net 60;source 0 1 0;bus 0 0 1 0"
            load(0, 1, 9) = 1
            match(1) = 109
            load(3, 0, 0) = 1
            match(0) = 1
            match(1) = 30000
            load(3, 1, 0) = 1
            match(0) = 2
            match(1) = 30001
            load(3, 1, 9) = 1
            match(0) = 1
            match(1) = 30109
            load(2, 0, 9) = 1
            match(0) = 10
            match(1) = 10000
            done "bus 1 0 9 0;bus 2 0 9 0;bus 3 0 9 0;bus 4 0 9 0"
            load(3, 5, 9) = 1
            match(0) = 1
            match(1) = 30509
            """);
        sentences.hold("Promise 23", "OUTSIDE.", """
            match(-1) = OUTSIDE
            match(2) = OUTSIDE
            """);
    }

    /** OVER is of PHASES alone: what faults tell may be greater. */
    private void neverOver() {
        sentences.hold("Promise 19", "likewise. UNKNOWN (either BUS, the PHASE); OUTSIDE; NOT.", """
            done "net 97;source 9 9 8;bus 0 9 9 9;bus 1 8 9 9;bus 2 9 7 9;bus 3 9 9 9;bus 4 9 9 9"
            voltage(2, 5, 7, 5, 0, 2) = 1067793622281/110796676
            voltage(2, 5, 7, 3, 1, 2) = 153266767011/110796676
            """);
    }
}
