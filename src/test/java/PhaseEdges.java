/** The edges of phases: what is OVER, and promises 7 to 17. */
final class PhaseEdges {
    private static final String NO_OHMS = "done \"net 9;source 0 0 0;bus 0 0 1 0\"\n";
    private static final String NINE_DEEDS = """
        phase(0, 1, 1, 0, 1) = 1
        phase(0, 2, 1, 0, 1) = 1
        phase(0, 3, 1, 0, 1) = 1
        phase(0, 4, 1, 0, 1) = 1
        phase(0, 5, 1, 0, 1) = 1
        phase(0, 6, 1, 0, 1) = 1
        phase(0, 7, 1, 0, 1) = 1
        phase(0, 8, 1, 0, 1) = 1
        phase(0, 9, 1, 0, 1) = 1
        """;

    private final Sentences sentences;

    private PhaseEdges(Sentences sentences) {
        this.sentences = sentences;
    }

    static void hold(Sentences sentences) {
        PhaseEdges edges = new PhaseEdges(sentences);
        edges.lowestTerms();
        edges.phaseTold();
        edges.overByParts();
        edges.overBySteps();
        edges.overByNorms();
        edges.split();
        edges.join();
        edges.turn();
        edges.load();
        edges.undo();
        edges.keepAndBack();
        edges.told();
        edges.fold();
        edges.foldOver();
        edges.most();
    }

    private void terms(String words, String lines) {
        sentences.hold("Terms", words, lines);
    }

    private void lowestTerms() {
        terms("A fraction is told in lowest terms: above (part 0; below 0, too), below (part 1; 1 or more; 0 is 0 by 1).", """
            phase(0, 0, 9999, 0, 1) = 1
            told(0, 0) = 0/1
            told(0, 1) = 0/1
            told(0, 2) = 0/1
            phase(0, 9999, 9999, -9999, 9999) = 1
            told(0, 0) = 1/1
            told(0, 1) = -1/1
            phase(0, -6, 4, 6, 8) = 1
            told(0, 0) = -3/2
            told(0, 1) = 3/4
            phase(0, 9998, 9999, -1, 9999) = 1
            told(0, 0) = 9998/9999
            told(0, 1) = -1/9999
            """);
        sentences.hold("What it is", "with w w and w and 1 together 0 (so w w w is 1)", """
            phase(0, 0, 1, 1, 1) = 1
            fold(1, 0) = 1/1
            fold(1, 1) = 0/1
            phase(1, 1, 1, 0, 1) = 1
            phase(2, -1, 1, -1, 1) = 1
            fold(0, 0) = 0/1
            fold(0, 1) = 0/1
            """);
    }

    private void phaseTold() {
        String heading = "Promise 7";
        sentences.hold(heading, "(a, c: -9999 .. 9999; b, d: 1 .. 9999): 1.", """
            phase(0, -9999, 1, 0, 1) = 1
            told(0, 0) = -9999/1
            phase(0, 9999, 1, 0, 1) = 1
            told(0, 0) = 9999/1
            phase(0, -10000, 1, 0, 1) = OUTSIDE
            phase(0, 10000, 1, 0, 1) = OUTSIDE
            told(0, 0) = 9999/1
            phase(0, 1, 1, 0, 1) = 1
            told(0, 0) = 1/1
            phase(0, 1, 9999, 0, 1) = 1
            told(0, 0) = 1/9999
            phase(0, 1, 0, 0, 1) = OUTSIDE
            phase(0, 1, -1, 0, 1) = OUTSIDE
            phase(0, 1, 10000, 0, 1) = OUTSIDE
            told(0, 0) = 1/9999
            phase(0, 0, 1, -9999, 1) = 1
            told(0, 1) = -9999/1
            phase(0, 0, 1, 9999, 1) = 1
            told(0, 1) = 9999/1
            phase(0, 0, 1, -10000, 1) = OUTSIDE
            phase(0, 0, 1, 10000, 1) = OUTSIDE
            told(0, 1) = 9999/1
            phase(0, 0, 1, 1, 1) = 1
            told(0, 1) = 1/1
            phase(0, 0, 1, 1, 9999) = 1
            told(0, 1) = 1/9999
            phase(0, 0, 1, 1, 0) = OUTSIDE
            phase(0, 0, 1, 1, -1) = OUTSIDE
            phase(0, 0, 1, 1, 10000) = OUTSIDE
            told(0, 1) = 1/9999
            """);
        sentences.hold(heading, "UNKNOWN; OUTSIDE.", """
            phase(0, 1, 1, 1, 1) = 1
            phase(2, 1, 1, 1, 1) = 1
            phase(-1, 1, 1, 1, 1) = UNKNOWN
            phase(3, 1, 1, 1, 1) = UNKNOWN
            phase(3, 10000, 0, 10000, 0) = UNKNOWN
            phase(-1, 0, 0, 0, 0) = UNKNOWN
            count(3) = 2
            """);
    }

    private void overByParts() {
        terms("some part on the way is above 1000000000", """
            large 999999999 0
            phase(1, 1, 1, 0, 1) = 1
            fold(0, 0) = 1000000000/1
            phase(1, 2, 1, 0, 1) = 1
            fold(0, 0) = OVER/OVER
            phase(1, 1, 1, 0, 1) = 1
            phase(2, 1, 9999, 0, 1) = 1
            fold(0, 0) = OVER/OVER
            phase(1, 3, 2, 0, 1) = 1
            phase(2, -1, 2, 0, 1) = 1
            fold(0, 0) = OVER/OVER
            phase(2, 0, 1, 0, 1) = 1
            fold(0, 0) = OVER/OVER
            """);
        terms("some part on the way is above 1000000000", """
            large 0 999999999
            phase(1, 0, 1, 1, 1) = 1
            fold(0, 1) = 1000000000/1
            phase(1, 0, 1, 2, 1) = 1
            fold(0, 1) = OVER/OVER
            fold(0, 0) = OVER/OVER
            """);
        terms("or below that less than 0", """
            large -999999999 0
            phase(1, -1, 1, 0, 1) = 1
            fold(0, 0) = -1000000000/1
            phase(1, -2, 1, 0, 1) = 1
            fold(0, 0) = OVER/OVER
            fold(0, 1) = OVER/OVER
            """);
        terms("or below that less than 0", """
            large 0 -999999999
            phase(1, 0, 1, -1, 1) = 1
            fold(0, 1) = -1000000000/1
            phase(1, 0, 1, -2, 1) = 1
            fold(0, 1) = OVER/OVER
            """);
        // 999999997 and 1000000002 are the nearest that divisors of 1 .. 9999 can make.
        terms("some part on the way is above 1000000000", """
            phase(0, 1, 71, 1, 71) = 1
            phase(1, 1, 2251, 1, 2251) = 1
            phase(2, 1, 6257, 1, 6257) = 1
            fold(0, 0) = 14688575/999999997
            fold(0, 1) = 14688575/999999997
            phase(0, 1, 258, 0, 1) = 1
            phase(1, 1, 983, 0, 1) = 1
            phase(2, 1, 3943, 0, 1) = 1
            fold(0, 0) = OVER/OVER
            phase(0, 0, 1, 1, 258) = 1
            phase(1, 0, 1, 1, 983) = 1
            phase(2, 0, 1, 1, 3943) = 1
            fold(0, 1) = OVER/OVER
            fold(0, 0) = OVER/OVER
            """);
    }

    private void overBySteps() {
        terms("reckoned step by step as told, from left to right", """
            large 1000000000 0
            phase(1, 1, 1, 0, 1) = 1
            phase(2, -1, 1, 0, 1) = 1
            fold(0, 0) = OVER/OVER
            most(2) = OVER
            split() = OVER
            join() = OVER
            phase(1, -1, 1, 0, 1) = 1
            phase(2, 1, 1, 0, 1) = 1
            fold(0, 0) = 1000000000/1
            most(2) = 0
            """);
        terms("each sum, difference, product of two fractions in lowest terms", """
            phase(0, 1, 9998, 0, 1) = 1
            phase(1, 1, 9998, 0, 1) = 1
            phase(2, 1, 9998, 0, 1) = 1
            fold(0, 0) = 3/9998
            fold(3, 0) = -3/9998
            split() = 1
            told(0, 0) = 1/9998
            new
            phase(0, 1, 9998, 1, 9998) = 1
            told(0, 2) = 1/99960004
            """);
        terms("by 3 at the end", """
            large 1000000000 0
            split() = 1
            told(0, 0) = 1000000000/3
            undo() = 0
            phase(1, 1, 1, 0, 1) = 1
            split() = OVER
            """);
        // The nearest to a third of the bound that divisors of 1 .. 9999 can make.
        terms("by 3 at the end", """
            phase(0, 1, 137, 0, 1) = 1
            phase(1, 1, 330, 0, 1) = 1
            phase(2, 1, 7373, 0, 1) = 1
            split() = 1
            told(0, 0) = 3488401/999999990
            phase(0, 1, 86, 0, 1) = 1
            phase(1, 1, 983, 0, 1) = 1
            phase(2, 1, 3943, 0, 1) = 1
            fold(0, 0) = 4299605/333333334
            split() = OVER
            join() = 1
            """);
        terms("times w w being times w twice", """
            large 999999999 -1
            turn() = 1
            turn() = 1
            join() = 1
            told(1, 0) = -1000000000/1
            told(1, 1) = -999999999/1
            told(2, 0) = 1/1
            told(2, 1) = 1000000000/1
            """);
        terms("times w w being times w twice", """
            large 1000000000 -1
            join() = 1
            undo() = 0
            split() = 1
            undo() = 0
            turn() = 1
            join() = OVER
            split() = OVER
            turn() = 1
            join() = OVER
            split() = OVER
            count(3) = 2
            """);
    }

    private void overByNorms() {
        terms("Its NORM: a a, less a b, and b b.", """
            phase(0, 9999, 1, -9999, 1) = 1
            told(0, 2) = 299940003/1
            phase(0, 3, 2, 2, 3) = 1
            told(0, 2) = 61/36
            """);
        // No NORM is 1000000000 itself; these are the nearest whole ones.
        terms("a NORM as told", """
            large -29997 3033
            told(0, 2) = 999999999/1
            most(0) = 0
            large 23912 -11943
            told(0, 2) = OVER/OVER
            told(0, 0) = 23912/1
            most(0) = OVER
            """);
        terms("a NORM as told", """
            large 31622 15811
            told(0, 2) = 749963163/1
            large 31623 15811
            told(0, 2) = OVER/OVER
            """);
        terms("a NORM as told", """
            large 15811 31622
            told(0, 2) = 749963163/1
            large 15811 31623
            told(0, 2) = OVER/OVER
            """);
        terms("a NORM as told", """
            phase(0, 1, 163, 1, 194) = 1
            told(0, 2) = 32583/999950884
            phase(0, 1, 127, 1, 249) = 1
            told(0, 2) = OVER/OVER
            """);
        // a a, less a b has 1093787908 below, though all of it would be 3 by 19909444.
        terms("a NORM as told", """
            phase(0, 1, 3358, -1, 7081) = 1
            told(0, 2) = OVER/OVER
            phase(0, 1, 5159, 1, 3015) = 1
            told(0, 2) = OVER/OVER
            """);
    }

    private void split() {
        String heading = "Promise 8";
        terms("SPLIT: part 0 is A and B and C by 3; part 1 A and w B and w w C by 3; part 2 A and w w B and w C by 3.", """
            split() = 1
            told(0, 0) = 0/1
            phase(0, 9999, 1, 9999, 1) = 1
            phase(1, 9999, 1, 9999, 1) = 1
            phase(2, 9999, 1, 9999, 1) = 1
            split() = 1
            told(0, 0) = 9999/1
            told(0, 1) = 9999/1
            told(1, 0) = 0/1
            told(1, 1) = 0/1
            told(2, 0) = 0/1
            told(2, 1) = 0/1
            new
            phase(1, 3, 1, 0, 1) = 1
            split() = 1
            told(0, 0) = 1/1
            told(1, 0) = 0/1
            told(1, 1) = 1/1
            told(2, 0) = -1/1
            told(2, 1) = -1/1
            new
            phase(2, 3, 1, 0, 1) = 1
            split() = 1
            told(0, 0) = 1/1
            told(1, 0) = -1/1
            told(1, 1) = -1/1
            told(2, 0) = 0/1
            told(2, 1) = 1/1
            """);
        sentences.hold(heading, "PHASES become SPLIT: 1. OVER.", """
            large 999999999 0
            phase(2, 1, 1, 0, 1) = 1
            split() = 1
            told(0, 0) = 1000000000/3
            undo() = 1
            phase(2, 2, 1, 0, 1) = 1
            split() = OVER
            count(3) = 2
            told(0, 0) = 999999999/1
            told(2, 0) = 2/1
            """);
        // Only part 1, part 1, part 2 is over.
        sentences.hold(heading, "PHASES become SPLIT: 1. OVER.", """
            large 1000000000 0
            phase(1, -1, 1, -1, 1) = 1
            split() = OVER
            phase(1, 0, 1, -1, 1) = 1
            split() = OVER
            phase(1, -1, 1, 0, 1) = 1
            split() = OVER
            phase(1, 0, 1, 0, 1) = 1
            split() = 1
            """);
    }

    private void join() {
        String heading = "Promise 9";
        terms("BACK from parts 0, 1, 2: A all together; B part 0, w w times part 1, w times part 2; C part 0, w times part 1, w w times part 2.", """
            join() = 1
            told(0, 0) = 0/1
            phase(1, 1, 1, 0, 1) = 1
            join() = 1
            told(0, 0) = 1/1
            told(0, 1) = 0/1
            told(1, 0) = -1/1
            told(1, 1) = -1/1
            told(2, 0) = 0/1
            told(2, 1) = 1/1
            new
            phase(2, 1, 1, 0, 1) = 1
            join() = 1
            told(0, 0) = 1/1
            told(1, 0) = 0/1
            told(1, 1) = 1/1
            told(2, 0) = -1/1
            told(2, 1) = -1/1
            """);
        sentences.hold(heading, "PHASES, taken as parts 0, 1, 2, are put BACK: 1. OVER.", """
            large 999999999 0
            phase(1, 1, 1, 0, 1) = 1
            join() = 1
            told(0, 0) = 1000000000/1
            told(1, 0) = 999999998/1
            undo() = 1
            phase(1, 2, 1, 0, 1) = 1
            join() = OVER
            count(3) = 2
            told(0, 0) = 999999999/1
            told(1, 0) = 2/1
            """);
        // Only B, C, B is over.
        sentences.hold(heading, "PHASES, taken as parts 0, 1, 2, are put BACK: 1. OVER.", """
            large 1000000000 0
            phase(1, -1, 1, 0, 1) = 1
            join() = OVER
            phase(1, 0, 1, -1, 1) = 1
            join() = OVER
            phase(1, 0, 1, 0, 1) = 1
            phase(2, 0, 1, -1, 1) = 1
            join() = OVER
            phase(2, 0, 1, 0, 1) = 1
            join() = 1
            told(2, 0) = 1000000000/1
            """);
    }

    private void turn() {
        terms("TURNED: A becomes what B was, B what C was, C what A was.", """
            phase(0, 1, 1, 4, 1) = 1
            phase(1, 2, 1, 5, 1) = 1
            phase(2, 3, 1, 6, 1) = 1
            turn() = 1
            told(0, 0) = 2/1
            told(0, 1) = 5/1
            told(1, 0) = 3/1
            told(1, 1) = 6/1
            told(2, 0) = 1/1
            told(2, 1) = 4/1
            """);
        sentences.hold("Promise 10", "TURNED: 1.", """
            turn() = 1
            large 1000000000 -1000000000
            turn() = 1
            told(2, 0) = 1000000000/1
            told(2, 1) = -1000000000/1
            turn() = 1
            turn() = 1
            told(0, 0) = 1000000000/1
            told(0, 1) = -1000000000/1
            """);
    }

    private void load() {
        terms("LOADED: PHASES are the currents of a FAULT.", """
            load(1, 0, 9) = 1
            told(0, 0) = 0/1
            told(1, 0) = -50/11
            told(1, 1) = -100/11
            told(2, 0) = 50/11
            told(2, 1) = 100/11
            """);
        sentences.hold("Promise 11", "UNKNOWN; OUTSIDE: SORT 0 .. 3, f; NOT: there is none such.", NO_OHMS + """
            load(0, 1, 0) = 1
            load(3, 1, 0) = 1
            load(3, 1, 9) = 1
            load(-1, 1, 0) = OUTSIDE
            load(4, 1, 0) = OUTSIDE
            load(3, 1, -1) = OUTSIDE
            load(3, 1, 10) = OUTSIDE
            load(3, -1, 0) = UNKNOWN
            load(3, 2, 0) = UNKNOWN
            load(4, 2, 10) = UNKNOWN
            load(0, 0, 0) = NOT
            load(1, 0, 0) = NOT
            load(2, 0, 0) = NOT
            load(3, 0, 0) = NOT
            load(4, 0, 0) = OUTSIDE
            load(0, 0, 10) = OUTSIDE
            count(3) = 3
            told(0, 0) = 9/10
            """);
    }

    private void undo() {
        String heading = "Promise 12";
        sentences.hold(heading, "(the last 8 can be): how many can be undone yet.", NINE_DEEDS + """
            count(3) = 8
            undo() = 7
            told(0, 0) = 8/1
            undo() = 6
            undo() = 5
            undo() = 4
            undo() = 3
            undo() = 2
            undo() = 1
            told(0, 0) = 2/1
            undo() = 0
            told(0, 0) = 1/1
            undo() = NOT
            told(0, 0) = 1/1
            """);
        sentences.hold(heading, "(the last 8 can be)", """
            phase(0, 1, 1, 0, 1) = 1
            split() = 1
            join() = 1
            turn() = 1
            load(3, 0, 1) = 1
            turn() = 1
            split() = 1
            join() = 1
            count(3) = 8
            undo() = 7
            undo() = 6
            undo() = 5
            told(0, 0) = 25/1
            undo() = 4
            told(2, 0) = 1/1
            undo() = 3
            told(0, 0) = 1/1
            undo() = 2
            told(1, 0) = 1/3
            undo() = 1
            told(1, 0) = 0/1
            undo() = 0
            told(0, 0) = 0/1
            undo() = NOT
            """);
        sentences.hold(heading, "NOT: none.", """
            undo() = NOT
            turn() = 1
            undo() = 0
            undo() = NOT
            undo() = NOT
            count(3) = 0
            turn() = 1
            count(3) = 1
            """);
        sentences.hold(heading, "that was not refused is undone", NO_OHMS + NINE_DEEDS + """
            phase(3, 1, 1, 0, 1) = UNKNOWN
            phase(0, 10000, 1, 0, 1) = OUTSIDE
            load(0, 0, 0) = NOT
            load(4, 0, 0) = OUTSIDE
            load(0, 2, 0) = UNKNOWN
            keep(0) = 1
            back(1) = NOT
            count(3) = 8
            undo() = 7
            told(0, 0) = 8/1
            """);
        sentences.hold(heading, "that was not refused is undone", """
            large 1000000000 0
            phase(1, 1, 1, 0, 1) = 1
            split() = OVER
            join() = OVER
            count(3) = 1
            undo() = 0
            told(1, 0) = 0/1
            undo() = NOT
            """);
        sentences.hold(heading, "The latest phase(), split(), join(), turn(), load()", NINE_DEEDS + """
            undo() = 7
            undo() = 6
            turn() = 1
            count(3) = 7
            undo() = 6
            told(0, 0) = 7/1
            turn() = 1
            turn() = 1
            turn() = 1
            count(3) = 8
            """);
    }

    private void keepAndBack() {
        sentences.hold("Promise 13", "PHASES as they are now are kept (k 0, 1): 1. OUTSIDE: no such k.", """
            keep(-1) = OUTSIDE
            keep(2) = OUTSIDE
            keep(0) = 1
            keep(1) = 1
            phase(0, 1, 1, 2, 1) = 1
            phase(1, 3, 1, 4, 1) = 1
            phase(2, 5, 1, 6, 1) = 1
            keep(1) = 1
            count(3) = 3
            phase(0, 9, 1, 9, 1) = 1
            back(1) = 1
            told(0, 0) = 1/1
            told(0, 1) = 2/1
            told(1, 0) = 3/1
            told(1, 1) = 4/1
            told(2, 0) = 5/1
            told(2, 1) = 6/1
            back(0) = 1
            told(0, 0) = 0/1
            """);
        sentences.hold("Promise 14", "They are as they were kept, nothing can be undone: 1.", """
            phase(0, 1, 1, 2, 1) = 1
            keep(0) = 1
            undo() = 0
            phase(0, 3, 1, 4, 1) = 1
            back(0) = 1
            told(0, 0) = 1/1
            told(0, 1) = 2/1
            count(3) = 0
            undo() = NOT
            turn() = 1
            split() = 1
            back(0) = 1
            told(0, 0) = 1/1
            told(2, 0) = 0/1
            """ + NINE_DEEDS + """
            back(0) = 1
            count(3) = 0
            turn() = 1
            undo() = 0
            undo() = NOT
            told(0, 0) = 1/1
            """);
        sentences.hold("Promise 14", "OUTSIDE; NOT: nothing was kept since the last text.", """
            turn() = 1
            back(0) = NOT
            back(1) = NOT
            back(-1) = OUTSIDE
            back(2) = OUTSIDE
            count(3) = 1
            keep(0) = 1
            back(1) = NOT
            keep(1) = 1
            done "source 1 1 1"
            back(0) = NOT
            back(1) = NOT
            keep(1) = 1
            back(0) = NOT
            back(1) = 1
            text "source 1 1"
            net() = NOT
            fault() = 10
            erase() = 10
            back(1) = 1
            back(0) = NOT
            """);
    }

    private void told() {
        sentences.hold("Promise 15", "Of a PHASE: a (what 0), b of w (1), NORM (2), each as a fraction.", """
            phase(0, 1, 2, 1, 3) = 1
            phase(2, 2, 1, 1, 1) = 1
            told(0, 0) = 1/2
            told(0, 1) = 1/3
            told(0, 2) = 7/36
            told(1, 2) = 0/1
            told(2, 2) = 3/1
            """);
        sentences.hold("Promise 15", "UNKNOWN; OUTSIDE: what, part; OVER.", """
            phase(0, 1, 9999, 1, 9998) = 1
            told(0, 2) = OVER/OVER
            told(0, 0) = 1/9999
            told(0, 1) = 1/9998
            told(1, 2) = 0/1
            told(-1, 0, 0) = UNKNOWN
            told(3, 0, 0) = UNKNOWN
            told(0, -1, 0) = OUTSIDE
            told(0, 3, 0) = OUTSIDE
            told(0, 0, -1) = OUTSIDE
            told(0, 0, 2) = OUTSIDE
            told(0, 2, 2) = OUTSIDE
            told(0, 2, -1) = OUTSIDE
            told(3, 3, 2) = UNKNOWN
            told(-1, -1, -1) = UNKNOWN
            """);
    }

    private void fold() {
        terms("FOLDS over PHASES A, B, C, from the NUMBER 0 on", """
            fold(0, 0) = 0/1
            fold(1, 1) = 0/1
            fold(2, 0) = 0/1
            fold(3, 1) = 0/1
            """);
        terms("0 each added; 1 what there is times w, then each added", """
            phase(0, 1, 1, 0, 1) = 1
            fold(0, 0) = 1/1
            fold(0, 1) = 0/1
            fold(1, 0) = -1/1
            fold(1, 1) = -1/1
            phase(0, 0, 1, 0, 1) = 1
            phase(1, 1, 1, 0, 1) = 1
            fold(0, 0) = 1/1
            fold(1, 0) = 0/1
            fold(1, 1) = 1/1
            phase(1, 0, 1, 0, 1) = 1
            phase(2, 1, 1, 0, 1) = 1
            fold(0, 0) = 1/1
            fold(1, 0) = 1/1
            fold(1, 1) = 0/1
            """);
        terms("2 the one of greater NORM (what there is, if alike)", """
            phase(0, 1, 1, 0, 1) = 1
            phase(1, 0, 1, 1, 1) = 1
            phase(2, -1, 1, -1, 1) = 1
            fold(2, 0) = 1/1
            fold(2, 1) = 0/1
            phase(0, 0, 1, 0, 1) = 1
            fold(2, 0) = 0/1
            fold(2, 1) = 1/1
            phase(2, -2, 1, -1, 1) = 1
            fold(2, 0) = -2/1
            fold(2, 1) = -1/1
            phase(1, 2, 1, 0, 1) = 1
            fold(2, 0) = 2/1
            phase(0, 0, 1, 9999, 5000) = 1
            phase(1, 2, 1, 0, 1) = 1
            phase(2, 9998, 5000, 0, 1) = 1
            fold(2, 0) = 2/1
            """);
        terms("3 what there is, less each", """
            phase(0, 1, 1, 2, 1) = 1
            fold(3, 0) = -1/1
            fold(3, 1) = -2/1
            phase(1, 10, 1, 20, 1) = 1
            phase(2, 100, 1, 200, 1) = 1
            fold(3, 0) = -111/1
            fold(3, 1) = -222/1
            """);
        sentences.hold("Promise 16", "A FOLD (rule 0 .. 3): a (what 0), b of w (1). OUTSIDE; OVER.", """
            fold(0, 0, 0) = 0
            fold(3, 1, 1) = 1
            fold(-1, 0, 0) = OUTSIDE
            fold(4, 0, 0) = OUTSIDE
            fold(0, -1, 0) = OUTSIDE
            fold(0, 2, 0) = OUTSIDE
            fold(0, 0, -1) = OUTSIDE
            fold(0, 0, 2) = OUTSIDE
            large 1000000000 0
            phase(1, 1, 1, 0, 1) = 1
            fold(0, 0) = OVER/OVER
            fold(0, 2, 0) = OUTSIDE
            fold(0, 0, 2) = OUTSIDE
            fold(4, 0, 0) = OUTSIDE
            told(0, 0) = 1000000000/1
            """);
    }

    private void foldOver() {
        String heading = "Promise 16";
        String words = "OUTSIDE; OVER.";
        sentences.hold(heading, words, """
            large 999999999 -1
            fold(1, 0) = -1000000000/1
            fold(1, 1) = -999999999/1
            phase(2, -1, 1, 0, 1) = 1
            fold(1, 0) = OVER/OVER
            fold(1, 1) = OVER/OVER
            phase(2, 0, 1, 0, 1) = 1
            phase(1, 0, 1, 1, 1) = 1
            fold(1, 0) = OVER/OVER
            """);
        sentences.hold(heading, words, """
            large 1000000000 -1
            fold(1, 0) = OVER/OVER
            fold(0, 0) = 1000000000/1
            turn() = 1
            fold(1, 0) = 1000000000/1
            fold(1, 1) = -1/1
            turn() = 1
            fold(1, 0) = OVER/OVER
            """);
        sentences.hold(heading, words, """
            large -29997 3033
            fold(2, 0) = -29997/1
            turn() = 1
            fold(2, 0) = -29997/1
            large 23912 -11943
            fold(2, 0) = OVER/OVER
            fold(2, 1) = OVER/OVER
            turn() = 1
            fold(2, 0) = OVER/OVER
            turn() = 1
            fold(2, 1) = OVER/OVER
            fold(0, 0) = 23912/1
            """);
        sentences.hold(heading, words, """
            large 1000000000 -1000000000
            fold(3, 0) = -1000000000/1
            fold(3, 1) = 1000000000/1
            phase(2, 1, 1, 0, 1) = 1
            fold(3, 0) = OVER/OVER
            fold(3, 1) = OVER/OVER
            phase(2, 0, 1, -1, 1) = 1
            fold(3, 0) = OVER/OVER
            phase(2, -1, 1, 1, 1) = 1
            fold(3, 0) = -999999999/1
            fold(3, 1) = 999999999/1
            """);
    }

    private void most() {
        String heading = "Promise 17";
        sentences.hold(heading, "The PHASE of the greatest NORM, of like ones the first (what 0)", """
            most(0) = 0
            phase(2, 1, 1, 0, 1) = 1
            most(0) = 2
            phase(1, 0, 1, -1, 1) = 1
            most(0) = 1
            phase(0, 1, 1, 1, 1) = 1
            most(0) = 0
            phase(2, 10001, 10000, 0, 1) = OUTSIDE
            phase(2, 9999, 9998, 0, 1) = 1
            most(0) = 2
            phase(1, 9998, 9997, 0, 1) = 1
            most(0) = 1
            """);
        sentences.hold(heading, "1 all NORMS are alike, 0 (1)", """
            most(1) = 1
            phase(0, 1, 1, 0, 1) = 1
            most(1) = 0
            phase(1, 0, 1, 1, 1) = 1
            most(1) = 0
            phase(2, -1, 1, -1, 1) = 1
            most(1) = 1
            phase(0, 2, 1, 0, 1) = 1
            most(1) = 0
            """);
        sentences.hold(heading, "1 all three together are 0, 0 (2)", """
            most(2) = 1
            phase(0, 1, 1, 0, 1) = 1
            most(2) = 0
            phase(1, 0, 1, 1, 1) = 1
            most(2) = 0
            phase(2, -1, 1, -1, 1) = 1
            most(2) = 1
            phase(2, -1, 1, 0, 1) = 1
            most(2) = 0
            phase(2, 0, 1, -1, 1) = 1
            most(2) = 0
            """);
        sentences.hold(heading, "OUTSIDE; OVER.", """
            most(-1) = OUTSIDE
            most(3) = OUTSIDE
            phase(2, 1, 9999, 1, 9998) = 1
            most(0) = OVER
            most(1) = OVER
            most(2) = 0
            most(3) = OUTSIDE
            turn() = 1
            most(0) = OVER
            most(1) = OVER
            turn() = 1
            most(0) = OVER
            most(1) = OVER
            """);
        sentences.hold(heading, "OUTSIDE; OVER.", """
            large 31622 0
            turn() = 1
            turn() = 1
            join() = 1
            most(0) = 0
            most(1) = 1
            most(2) = 1
            large 31623 0
            turn() = 1
            turn() = 1
            join() = 1
            most(0) = OVER
            most(1) = OVER
            most(2) = 1
            """);
        sentences.hold(heading, "OUTSIDE; OVER.", """
            large 1000000000 0
            phase(1, 1, 1, 0, 1) = 1
            most(2) = OVER
            phase(1, 0, 1, 1, 1) = 1
            most(2) = 0
            phase(2, 1, 1, 0, 1) = 1
            most(2) = OVER
            """);
    }
}
