/** The edges of stores, and promises 24 to 29. */
final class StoreEdges {
    private static final String EIGHT_WHOLES = """
        store(0) = 0
        put(0, 0, 1, 0) = 1
        put(0, 0, 2, 0) = 2
        put(0, 0, 3, 0) = 3
        put(0, 0, 4, 0) = 4
        put(0, 0, 5, 0) = 5
        put(0, 0, 6, 0) = 6
        put(0, 0, 7, 0) = 7
        put(0, 0, 8, 0) = 8
        """;

    private final Sentences sentences;

    private StoreEdges(Sentences sentences) {
        this.sentences = sentences;
    }

    static void hold(Sentences sentences) {
        StoreEdges edges = new StoreEdges(sentences);
        edges.things();
        edges.order();
        edges.store();
        edges.put();
        edges.take();
        edges.sum();
        edges.drop();
        edges.count();
    }

    private void terms(String words, String lines) {
        sentences.hold("Terms", words, lines);
    }

    private void things() {
        terms("or hold 0 to 8 things", EIGHT_WHOLES + """
            put(0, 0, 9, 0) = ROOM
            put(0, 1, 9, 9) = ROOM
            count(2) = 8
            sum(0, 0) = 36
            take(0, 0) = 8
            put(0, 1, 9, 9) = 8
            put(0, 1, 9, 9) = ROOM
            """);
        terms("WHOLES (-9999 .. 9999)", """
            store(0) = 0
            put(0, 0, 9999, 0) = 1
            take(0, 0) = 9999
            put(0, 0, -9999, 0) = 1
            take(0, 0) = -9999
            put(0, 0, 10000, 0) = OUTSIDE
            put(0, 0, -10000, 0) = OUTSIDE
            count(2) = 0
            """);
        terms("PAIRS (a NUMBER of two WHOLES)", """
            store(0) = 0
            put(0, 1, 9999, -9999) = 1
            put(0, 1, -9999, 9999) = 2
            put(0, 1, 10000, 0) = OUTSIDE
            put(0, 1, -10000, 0) = OUTSIDE
            put(0, 1, 0, 10000) = OUTSIDE
            put(0, 1, 0, -10000) = OUTSIDE
            count(2) = 2
            take(0, 1) = 299940003
            take(0, 1) = 299940003
            """);
    }

    private void order() {
        terms("NULL -2000000011 (the STORE is missing)", """
            put(0, 0, 1, 1) = NULL
            take(0, 0) = NULL
            take(0, 1) = NULL
            sum(0, 0) = NULL
            drop(0) = NULL
            """);
        terms("EMPTY -2000000012 (it has nothing)", """
            store(0) = 0
            take(0, 0) = EMPTY
            take(0, 1) = EMPTY
            put(0, 0, 1, 1) = 1
            take(0, 0) = 1
            take(0, 0) = EMPTY
            """);
        terms("CAST -2000000013 (the other sort is there)", """
            store(0) = 0
            put(0, 0, 1, 1) = 1
            take(0, 1) = CAST
            put(0, 1, 1, 1) = 2
            take(0, 0) = CAST
            take(0, 1) = 1
            take(0, 1) = CAST
            take(0, 0) = 1
            """);
        terms("ROOM -2000000014 (there would be more than 8)", EIGHT_WHOLES + """
            put(0, 0, 1, 0) = ROOM
            take(0, 1) = CAST
            """);
        terms("of several the first in this order; it changes nothing.", EIGHT_WHOLES + """
            put(0, 0, 9, 0) = ROOM
            take(0, 1) = CAST
            take(1, 0) = NULL
            store(1) = 0
            take(1, 1) = EMPTY
            count(2) = 8
            sum(0, 0) = 36
            sum(0, 2) = 0
            sum(1, 0) = 0
            take(0, 0) = 8
            """);
        terms("the first of these that fits, then what the machine finds.", """
            put(3, 2, 10000, 10000) = UNKNOWN
            put(0, 2, 1, 1) = OUTSIDE
            put(0, 0, 10000, 1) = OUTSIDE
            put(0, 1, 1, 10000) = OUTSIDE
            take(3, 2) = UNKNOWN
            take(0, 2) = OUTSIDE
            sum(3, 3) = UNKNOWN
            sum(0, 3) = OUTSIDE
            store(0) = 0
            take(0, 2) = OUTSIDE
            """ + EIGHT_WHOLES + """
            put(0, 2, 1, 1) = OUTSIDE
            put(0, 0, 10000, 1) = OUTSIDE
            take(0, 2) = OUTSIDE
            """);
    }

    private void store() {
        sentences.hold("Promise 24", "A STORE is a new one, with nothing: 0. UNKNOWN.", EIGHT_WHOLES + """
            store(-1) = UNKNOWN
            store(3) = UNKNOWN
            count(2) = 8
            store(2) = 0
            put(2, 0, 1, 0) = 1
            store(0) = 0
            count(2) = 1
            take(0, 0) = EMPTY
            take(1, 0) = NULL
            take(2, 0) = 1
            """);
    }

    private void put() {
        sentences.hold("Promise 25", "A WHOLE a (what 0), a PAIR a and b w (1) comes to a STORE, on top: how many it has.", """
            store(2) = 0
            put(2, 0, 3, 4) = 1
            put(2, 1, 5, 6) = 2
            sum(2, 0) = 8
            sum(2, 1) = 6
            sum(2, 2) = 1
            take(2, 1) = 31
            take(2, 0) = 3
            """);
        sentences.hold("Promise 25", "UNKNOWN; OUTSIDE (what, a, b); NULL; ROOM.", """
            put(-1, 0, 0, 0) = UNKNOWN
            put(3, 0, 0, 0) = UNKNOWN
            put(0, 0, 0, 0) = NULL
            put(2, 1, 0, 0) = NULL
            """ + EIGHT_WHOLES + """
            take(0, 0) = 8
            put(0, -1, 0, 0) = OUTSIDE
            put(0, 2, 0, 0) = OUTSIDE
            put(0, 0, 0, 10000) = OUTSIDE
            put(0, 0, 0, -10000) = OUTSIDE
            put(0, 0, 0, 9999) = 8
            put(0, 0, 0, 0) = ROOM
            put(0, 2, 0, 0) = OUTSIDE
            put(1, 0, 0, 0) = NULL
            """);
    }

    private void take() {
        sentences.hold("Promise 26", "What is on top of a STORE, taken as a WHOLE (what 0), a PAIR (1), goes: it, of a PAIR its NORM.", """
            store(0) = 0
            put(0, 0, -9999, 9999) = 1
            put(0, 1, 0, 0) = 2
            put(0, 1, -9999, -9999) = 3
            take(0, 1) = 99980001
            take(0, 1) = 0
            take(0, 0) = -9999
            count(2) = 0
            """);
        sentences.hold("Promise 26", "UNKNOWN; OUTSIDE; NULL; EMPTY; CAST.", """
            take(-1, 0) = UNKNOWN
            take(3, 0) = UNKNOWN
            take(0, -1) = OUTSIDE
            take(0, 2) = OUTSIDE
            take(0, 0) = NULL
            take(2, 1) = NULL
            store(0) = 0
            take(0, 1) = EMPTY
            put(0, 0, 1, 0) = 1
            take(0, 1) = CAST
            take(0, 2) = OUTSIDE
            take(1, 1) = NULL
            count(2) = 1
            """);
    }

    private void sum() {
        sentences.hold("Promise 27", "All of a STORE added: a (what 0), b of w (1), how many PAIRS (2).", """
            store(0) = 0
            sum(0, 0) = 0
            sum(0, 1) = 0
            sum(0, 2) = 0
            """ + ("put(0, 1, 9999, -9999) = %d\n".repeat(8)).formatted(1, 2, 3, 4, 5, 6, 7, 8) + """
            sum(0, 0) = 79992
            sum(0, 1) = -79992
            sum(0, 2) = 8
            """ + EIGHT_WHOLES + """
            sum(0, 0) = 36
            sum(0, 1) = 0
            sum(0, 2) = 0
            """);
        sentences.hold("Promise 27", "UNKNOWN; OUTSIDE; NULL.", """
            sum(-1, 0) = UNKNOWN
            sum(3, 0) = UNKNOWN
            sum(0, 0) = NULL
            sum(2, 2) = NULL
            sum(0, -1) = OUTSIDE
            sum(0, 3) = OUTSIDE
            store(0) = 0
            sum(0, -1) = OUTSIDE
            sum(0, 3) = OUTSIDE
            sum(1, 0) = NULL
            """);
    }

    private void drop() {
        sentences.hold("Promise 28", "A STORE is missing from now on: how many it had. UNKNOWN; NULL.", EIGHT_WHOLES + """
            drop(-1) = UNKNOWN
            drop(3) = UNKNOWN
            drop(1) = NULL
            drop(2) = NULL
            count(2) = 8
            drop(0) = 8
            drop(0) = NULL
            count(2) = 0
            store(0) = 0
            drop(0) = 0
            put(0, 0, 1, 0) = NULL
            store(2) = 0
            put(2, 0, 1, 0) = 1
            drop(2) = 1
            """);
    }

    private void count() {
        sentences.hold("Promise 29", "0 BUSES, 1 VOLTAGE, 2 things of all STORES, 3 how many can be undone, 4 letters of THE TEXT.", EIGHT_WHOLES + """
            store(1) = 0
            store(2) = 0
            """ + ("put(1, 0, 1, 0) = %d\n".repeat(8)).formatted(1, 2, 3, 4, 5, 6, 7, 8)
            + ("put(2, 1, 1, 0) = %d\n".repeat(8)).formatted(1, 2, 3, 4, 5, 6, 7, 8) + "turn() = 1\n".repeat(9) + """
            write(32) = 1
            count(0) = 1
            count(1) = 50
            count(2) = 24
            count(3) = 8
            count(4) = 1
            drop(1) = 8
            count(2) = 16
            """);
        sentences.hold("Promise 29", "OUTSIDE.", """
            count(-1) = OUTSIDE
            count(5) = OUTSIDE
            count(0) = 1
            count(4) = 0
            """);
    }
}
