/** What the document says without naming an edge: its first lines, the rest of its terms, what a promise is of. */
final class PlainSentences {
    // Z 0, 1, 2 of the buses: 1 2 3, 3 3 4, 6 6 6, 5 4 8, 3 8 13; 1 and 3 hang at 0, 2 and 4 at 1.
    private static final String TREE = """
        done "net 84;source 1 2 3;bus 0 2 1 1;bus 1 3 3 2;bus 0 4 2 5;bus 1 0 5 9"
        """;
    private static final String UNLIKE = """
        phase(0, 1, 2, -3, 1) = 1
        phase(1, 5, 1, 7, 4) = 1
        phase(2, -2, 3, 0, 1) = 1
        """;
    private static final String UNLIKE_TOLD = """
        told(0, 0) = 1/2
        told(0, 1) = -3/1
        told(1, 0) = 5/1
        told(1, 1) = 7/4
        told(2, 0) = -2/3
        told(2, 1) = 0/1
        """;
    private static final String UNLIKE_SPLIT = """
        told(0, 0) = 29/18
        told(0, 1) = -5/12
        told(1, 0) = -7/36
        told(1, 1) = 11/36
        told(2, 0) = -11/12
        told(2, 1) = -26/9
        """;

    private final Sentences sentences;

    private PlainSentences(Sentences sentences) {
        this.sentences = sentences;
    }

    static void hold(Sentences sentences) {
        PlainSentences plain = new PlainSentences(sentences);
        plain.phasesOfADesk();
        plain.netsOfADesk();
        plain.restOfADesk();
        plain.net();
        plain.text();
        plain.faults();
        plain.whatFollowsAFault();
        plain.refusals();
        plain.promises();
        plain.passedOver();
    }

    private void desk(String words, String lines) {
        sentences.hold("What it is", words, lines);
    }

    private void terms(String words, String lines) {
        sentences.hold("Terms", words, lines);
    }

    private void phasesOfADesk() {
        desk("A desk for faults on a line of three phases: what flows in a phase is a number a and b w", """
            load(2, 0, 1) = 1
            told(0, 0) = 0/1
            told(1, 0) = -100/3
            told(1, 1) = -50/1
            told(2, 0) = 50/3
            told(2, 1) = 50/1
            """);
        desk("w being a third of a turn, so that 1 and w and w w are nought together", """
            phase(0, 1, 1, 0, 1) = 1
            phase(1, 0, 1, 1, 1) = 1
            phase(2, -1, 1, -1, 1) = 1
            most(1) = 1
            most(2) = 1
            split() = 1
            told(0, 0) = 0/1
            told(2, 0) = 1/1
            """);
        desk("three of them, however unlike, are split into three threes that are alike but for turns, and back;",
            UNLIKE + "split() = 1\n" + UNLIKE_SPLIT + """
            phase(0, 0, 1, 0, 1) = 1
            phase(2, 0, 1, 0, 1) = 1
            join() = 1
            most(1) = 1
            most(2) = 1
            told(0, 0) = -7/36
            told(0, 1) = 11/36
            undo() = 6
            undo() = 5
            undo() = 4
            join() = 1
            """ + UNLIKE_TOLD);
        desk("phases told, split, turned, put back;", UNLIKE + UNLIKE_TOLD + """
            split() = 1
            turn() = 1
            told(0, 0) = -7/36
            turn() = 1
            turn() = 1
            join() = 1
            """ + UNLIKE_TOLD);
        desk("which phase carries most, by norms;", UNLIKE + """
            most(0) = 1
            told(0, 2) = 43/4
            told(1, 2) = 309/16
            told(2, 2) = 4/9
            """);
        desk("======== 1 A NUMBER is a and b w, a and b being fractions,", "phase(1, 22, 7, -355, 113) = 1\ntold(1, 0) = 22/7\ntold(1, 1) = -355/113");
    }

    private void netsOfADesk() {
        desk("on a tree of buses each line tells three resistances, one for each of these,", TREE + """
            bus(2, 0) = 1
            bus(2, 1) = 3
            bus(2, 2) = 3
            bus(2, 3) = 2
            """);
        desk("and a fault of some kind joins the three nets each in its own way, from which all currents come exactly, in fractions; and all voltages elsewhere;",
            TREE + """
            current(2, 4, 2, 1, 0) = -2940/293
            current(2, 4, 2, 1, 1) = -2604/293
            current(2, 4, 2, 1, 2) = 7768656/85849
            voltage(2, 4, 2, 3, 2, 0) = -1176/293
            voltage(2, 4, 2, 3, 2, 1) = 18648/293
            voltage(2, 4, 2, 3, 2, 2) = 371060928/85849
            """);
        desk("buses, lines, relays told in a small text, read to its first fault;", """
            fault "net 84;bus 0 2 1 1;relay 1 7;bus 5 1 1 1;relay 9 9" = 33
            net() = NOT
            fault "net 84;bus 0 2 1 1;relay 1 7;bus 1 1 1 1;relay 9 9" = 47
            fault "net 84;bus 0 2 1 1;relay 1 7;bus 1 1 1 1;relay 2 9" = NONE
            net() = 5
            bus(1, 4) = 7
            bus(2, 4) = 9
            """);
        desk("which buses sag below a share, which relays trip, the worst bus of a kind;", TREE + """
            done "relay 1 11;relay 2 12;relay 3 1;relay 4 1"
            sag(3, 2, 1, 60) = 22
            trips(3, 2, 1) = 2
            worst(3, 1) = 0
            """);
        desk("by which fault what was measured could have come;", TREE + """
            phase(1, -21, 4, -21, 2) = 1
            phase(2, 21, 4, 21, 2) = 1
            match(0) = 3
            match(1) = 10109
            phase(0, 1, 1, 0, 1) = 1
            match(0) = 0
            match(1) = NONE
            """);
    }

    private void restOfADesk() {
        desk("rules of joining, turns, folds handed on as objects,", UNLIKE + """
            fold(0, 0) = 29/6
            fold(0, 1) = -5/4
            fold(1, 0) = -71/12
            fold(1, 1) = 11/4
            fold(2, 0) = 5/1
            fold(2, 1) = 7/4
            fold(3, 0) = -29/6
            fold(3, 1) = 5/4
            join() = 1
            told(0, 0) = 29/6
            told(0, 1) = -5/4
            told(1, 0) = -11/4
            told(1, 1) = -26/3
            told(2, 0) = -7/12
            told(2, 1) = 11/12
            turn() = 1
            told(2, 0) = 29/6
            """);
        desk("what is done undone by what it noted;", UNLIKE + """
            turn() = 1
            split() = 1
            load(3, 0, 0) = 1
            undo() = 5
            undo() = 4
            told(0, 0) = 5/1
            undo() = 3
            """ + UNLIKE_TOLD);
        desk("a store of numbers of a kind or another, missing;", """
            put(1, 0, 4, 0) = NULL
            store(1) = 0
            put(1, 0, 4, 0) = 1
            put(1, 1, 2, 5) = 2
            sum(1, 0) = 6
            sum(1, 1) = 5
            take(1, 1) = 19
            take(1, 0) = 4
            """);
        desk("a desk kept, all undone.", UNLIKE + """
            keep(0) = 1
            turn() = 1
            split() = 1
            back(0) = 1
            undo() = NOT
            """ + UNLIKE_TOLD);
        desk("An object is used for at most 512 calls after it has been made; what later calls answer is free.",
            "write(32) = 1\nerase() = 1\n".repeat(255) + "count(4) = 0\nfault() = 0");
    }

    private void net() {
        terms("THE NET: SOURCE of a VOLTAGE V (1 .. 99; 50 at first), with three RESISTANCES (0 .. 9 each; 1, 1, 1 at first)", """
            count(1) = 50
            current(3, 0, 0, 0, 0) = 50/1
            done "net 84;source 1 2 3"
            count(1) = 84
            bus(0, 1) = 1
            bus(0, 2) = 2
            bus(0, 3) = 3
            current(3, 0, 0, 0, 0) = 42/1
            """);
        terms("a LINE has RESISTANCES, of the KINDS 0, 1, 2 (0 .. 9 each), and a RELAY's LIMIT (0 .. 999; 0: none).", """
            done "bus 0 0 9 4;bus 0 9 4 0;relay 2 999"
            bus(1, 1) = 0
            bus(1, 2) = 9
            bus(1, 3) = 4
            bus(1, 4) = 0
            bus(2, 1) = 9
            bus(2, 2) = 4
            bus(2, 3) = 0
            bus(2, 4) = 999
            """);
        terms("Z k of a BUS: that of SOURCE, and of the LINES up to it, of KIND k, together.", TREE + """
            bus(0, 5) = 1
            bus(0, 6) = 2
            bus(0, 7) = 3
            bus(1, 5) = 3
            bus(1, 6) = 3
            bus(1, 7) = 4
            bus(2, 5) = 6
            bus(2, 6) = 6
            bus(2, 7) = 6
            bus(3, 5) = 5
            bus(3, 6) = 4
            bus(3, 7) = 8
            bus(4, 5) = 3
            bus(4, 6) = 8
            bus(4, 7) = 13
            """);
    }

    private void text() {
        terms("(As written here, without points;", """
            fault "net 7" = NONE
            fault "net 7." = 5
            fault "source 1 2 3." = 12
            fault "bus 0 1 2 3." = 11
            fault "bus 0 1 2 3;relay 1 5." = 21
            fault "net. 7" = 3
            fault "NET 7" = 0
            """);
        terms("bus: a BUS more, that hangs at BUS U, told ahead, by a LINE of RESISTANCES P, Q, R,", """
            done "bus 0 1 2 3"
            done "bus 1 4 5 6"
            count(0) = 3
            bus(2, 0) = 1
            bus(2, 1) = 4
            bus(2, 2) = 5
            bus(2, 3) = 6
            bus(1, 1) = 1
            """);
        terms("======== 2 PHASES A, B, C (0, 1, 2) are NUMBERS", UNLIKE + UNLIKE_TOLD);
        terms("What the machine finds is answered as NULL", """
            sum(2, 0) = NULL
            store(2) = 0
            take(2, 0) = EMPTY
            put(2, 1, 1, 1) = 1
            take(2, 0) = CAST
            """);
    }

    private void faults() {
        terms("with V, z0, z1, z2 (Z 0, Z 1, Z 2 of the BUS) the parts of its current are: SORT 0", TREE + """
            load(0, 2, 1) = 1
            split() = 1
            told(0, 0) = 4/1
            told(1, 0) = 4/1
            told(2, 0) = 4/1
            told(0, 1) = 0/1
            told(1, 1) = 0/1
            told(2, 1) = 0/1
            """);
        terms("SORT 1 (two): part 0 is 0", TREE + """
            load(1, 2, 1) = 1
            split() = 1
            told(0, 0) = 0/1
            told(1, 0) = 84/13
            told(2, 0) = -84/13
            told(1, 1) = 0/1
            told(2, 1) = 0/1
            """);
        terms("SORT 2 (two to ground): with g being z0 and 3 f, and d being z1 z2 and z1 g and z2 g:", TREE + """
            load(2, 2, 1) = 1
            split() = 1
            told(0, 0) = -7/2
            told(1, 0) = 35/4
            told(2, 0) = -21/4
            load(2, 4, 2) = 1
            split() = 1
            told(0, 0) = -1092/293
            told(1, 0) = 1848/293
            told(2, 0) = -756/293
            told(0, 1) = 0/1
            """);
        terms("SORT 3 (three): part 1 is V by (z1 and f), others 0.", TREE + """
            load(3, 2, 1) = 1
            split() = 1
            told(0, 0) = 0/1
            told(1, 0) = 12/1
            told(2, 0) = 0/1
            """);
        terms("Its currents: BACK from these.", TREE + """
            current(0, 2, 1, 0, 0) = 12/1
            current(0, 2, 1, 1, 2) = 0/1
            current(1, 2, 1, 0, 2) = 0/1
            current(1, 2, 1, 2, 0) = 84/13
            current(1, 2, 1, 2, 1) = 168/13
            current(2, 2, 1, 0, 2) = 0/1
            current(2, 2, 1, 1, 0) = -49/4
            current(2, 2, 1, 1, 1) = -14/1
            current(2, 2, 1, 2, 0) = 7/4
            current(2, 2, 1, 2, 1) = 14/1
            current(2, 2, 1, 2, 2) = 2793/16
            current(3, 2, 1, 1, 0) = -12/1
            current(3, 2, 1, 1, 1) = -12/1
            """);
    }

    private void whatFollowsAFault() {
        terms("VOLTAGES at a BUS then: with s0, s1, s2 being Z 0, 1, 2 of the last BUS that is on both ways to SOURCE", TREE + """
            voltage(2, 2, 1, 2, 1, 0) = -21/2
            voltage(2, 2, 1, 2, 1, 1) = 0/1
            voltage(2, 2, 1, 4, 1, 0) = -189/4
            voltage(2, 2, 1, 4, 1, 1) = -147/4
            voltage(2, 2, 1, 1, 1, 0) = -189/4
            voltage(2, 2, 1, 3, 1, 0) = -63/1
            voltage(2, 2, 1, 3, 1, 1) = -203/4
            voltage(2, 2, 1, 0, 1, 0) = -63/1
            """);
        terms("(of that BUS, of the one of the FAULT): BACK from parts:", TREE + """
            voltage(1, 3, 4, 3, 0, 0) = 105/1
            voltage(1, 3, 4, 3, 1, 0) = -63/1
            voltage(1, 3, 4, 3, 1, 1) = -21/1
            voltage(1, 3, 4, 3, 2, 0) = -42/1
            voltage(1, 3, 4, 3, 2, 1) = 21/1
            voltage(1, 3, 4, 2, 2, 0) = -63/4
            voltage(1, 3, 4, 2, 2, 1) = 231/4
            voltage(1, 3, 4, 2, 2, 2) = 71883/16
            """);
        terms("TRIPS: LINES", TREE + "done \"relay 1 13;relay 2 14;relay 3 1\"\ntrips(2, 2, 1) = 2\ntrips(2, 1, 1) = 2\ntrips(2, 3, 1) = 8\n");
        terms("WORST of a SORT by f:", """
            done "net 84;source 0 0 1;bus 0 9 1 9;bus 0 1 4 1"
            worst(0, 0) = 0
            worst(0, 9) = 0
            worst(3, 0) = 1
            worst(3, 1) = 0
            """);
    }

    private void refusals() {
        terms("Refused, and nothing changes, far below all that is told:", """
            large -1000000000 0
            fold(0, 0) = -1000000000/1
            phase(1, -1, 1, 0, 1) = 1
            split() = OVER
            join() = OVER
            phase(3, 1, 1, 1, 1) = UNKNOWN
            keep(2) = OUTSIDE
            back(0) = NOT
            told(0, 0) = -1000000000/1
            told(1, 0) = -1/1
            count(3) = 1
            """);
        terms("UNKNOWN -2000000001 (no such BUS, PHASE, STORE)", "bus(1, 0) = -2000000001\nphase(3, 0, 1, 0, 1) = -2000000001\nstore(3) = -2000000001");
        terms("OUTSIDE -2000000002 (another number is not as told)", "count(5) = -2000000002\nworst(4, 0) = -2000000002\nwrite(256) = -2000000002");
        terms("NOT -2000000003 (not now: as told)", "undo() = -2000000003\nnet() = -2000000003\nback(1) = -2000000003");
        terms("OVER -2000000004 (of PHASES, SPLIT, BACK, FOLDS, their NORMS:", """
            phase(0, 1, 9999, 0, 1) = 1
            phase(1, 1, 9998, 0, 1) = 1
            phase(2, 1, 9997, 1, 9999) = 1
            split() = -2000000004
            join() = -2000000004
            fold(0, 0, 0) = -2000000004
            told(2, 2, 0) = -2000000004
            most(0) = -2000000004
            """);
        terms("NULL -2000000011 (the STORE is missing), EMPTY -2000000012", "take(0, 0) = -2000000011\nstore(0) = 0\ntake(0, 0) = -2000000012");
        terms("CAST -2000000013 (the other sort is there), ROOM -2000000014", "store(0) = 0\n"
            + ("put(0, 0, 1, 0) = %d\n".repeat(8)).formatted(1, 2, 3, 4, 5, 6, 7, 8) + "take(0, 1) = -2000000013\nput(0, 0, 1, 0) = -2000000014");
    }

    private void promises() {
        sentences.hold("Promise 6", "Of a BUS: the one at which it hangs", TREE + "bus(4, 0) = 1\nbus(3, 0) = 0\nbus(4, 8) = 2\nbus(3, 8) = 1");
        sentences.hold("Promise 7", "A PHASE is a by b, and w times c by d", UNLIKE + UNLIKE_TOLD);
        sentences.hold("Promise 11", "LOADED with the currents of a FAULT: 1.", TREE + """
            load(2, 4, 2) = 1
            told(0, 0) = 0/1
            told(0, 1) = 0/1
            told(1, 0) = -2940/293
            told(1, 1) = -2604/293
            told(2, 0) = -336/293
            told(2, 1) = 2604/293
            match(1) = 20402
            """);
        sentences.hold("Promise 18", "Of the current of a FAULT in a PHASE:", TREE + """
            current(2, 4, 2, 0, 0) = 0/1
            current(2, 4, 2, 1, 0) = -2940/293
            current(2, 4, 2, 2, 0) = -336/293
            current(2, 4, 2, 2, 2) = 7768656/85849
            """);
        sentences.hold("Promise 19", "Of the VOLTAGE at a BUS then: likewise.", TREE + """
            voltage(2, 4, 2, 2, 0, 0) = 25368/293
            voltage(2, 4, 2, 2, 1, 1) = -16044/293
            voltage(2, 4, 2, 2, 2, 2) = 253430352/85849
            """);
        sentences.hold("Promise 20", "SAG, by bits.", TREE + "sag(2, 4, 2, 26) = 0\nsag(2, 4, 2, 27) = 16\nsag(2, 4, 2, 65) = 22\nsag(2, 4, 2, 79) = 31");
        sentences.hold("Promise 21", "TRIPS, by bits (bit b for the LINE of BUS b).", TREE + """
            done "relay 1 9;relay 4 9;relay 2 9"
            trips(2, 4, 2) = 18
            trips(2, 1, 2) = 2
            """);
        sentences.hold("Promise 23", "MATCH: how many", TREE + "load(1, 3, 4) = 1\nmatch(0) = 3\nmatch(1) = 10109\nload(3, 4, 9) = 1\nmatch(0) = 1\nmatch(1) = 30409");
    }

    /** FaceTest looks at these, or they set something free. */
    private void passedOver() {
        Document document = sentences.document();
        sentences.passOver("The public face", document.section("The public face"));
        sentences.passOver("Not promised", document.section("Not promised"));
        String terms = document.section("Terms");
        sentences.passOver("Terms", terms.substring(terms.indexOf("Ahead of the calls")));
    }
}
