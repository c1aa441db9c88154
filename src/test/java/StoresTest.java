/** Promises 24 to 29: stores of wholes and pairs, and what is counted. */
public final class StoresTest {
    private static final Check CHECK = new Check("StoresTest");

    public static void main(String[] args) {
        stored();
        put();
        taken();
        summed();
        dropped();
        counted();
        CHECK.end();
    }

    private static void stored() {
        Script.run(CHECK, """
            store(0) = 0
            put(0, 0, 5, 0) = 1
            store(0) = 0
            count(2) = 0
            take(0, 0) = EMPTY
            store(2) = 0
            take(1, 0) = NULL
            store(3) = UNKNOWN
            store(-1) = UNKNOWN
            store(2147483647) = UNKNOWN
            store(-2147483648) = UNKNOWN
            """);
    }

    private static void put() {
        Script.run(CHECK, """
            put(0, 0, 1, 1) = NULL
            put(0, 0, 10000, 1) = OUTSIDE
            put(3, 9, 10000, 1) = UNKNOWN
            put(-1, 0, 0, 0) = UNKNOWN
            store(0) = 0
            put(0, 0, 9999, 0) = 1
            put(0, 0, -9999, 0) = 2
            put(0, 1, 9999, -9999) = 3
            put(0, 1, -9999, 9999) = 4
            put(0, 2, 0, 0) = OUTSIDE
            put(0, -1, 0, 0) = OUTSIDE
            put(0, 0, 10000, 0) = OUTSIDE
            put(0, 0, -10000, 0) = OUTSIDE
            put(0, 1, 0, 10000) = OUTSIDE
            put(0, 1, 0, -10000) = OUTSIDE
            put(0, 0, 0, 10000) = OUTSIDE
            put(0, 0, 0, -2147483648) = OUTSIDE
            count(2) = 4
            put(0, 0, 5, 9) = 5
            put(0, 0, 6, 9) = 6
            put(0, 0, 7, 9) = 7
            put(0, 0, 8, 9) = 8
            put(0, 0, 9, 9) = ROOM
            put(0, 1, 9, 9) = ROOM
            put(0, 2, 9, 9) = OUTSIDE
            take(0, 0) = 8
            put(0, 1, 1, 1) = 8
            """);
    }

    private static void taken() {
        Script.run(CHECK, """
            take(0, 0) = NULL
            take(0, 2) = OUTSIDE
            take(0, -1) = OUTSIDE
            take(3, 0) = UNKNOWN
            take(-1, 2) = UNKNOWN
            store(0) = 0
            take(0, 0) = EMPTY
            take(0, 1) = EMPTY
            take(0, 2) = OUTSIDE
            put(0, 0, -7, 8) = 1
            put(0, 1, -3, 5) = 2
            put(0, 1, 9999, -9999) = 3
            take(0, 0) = CAST
            count(2) = 3
            take(0, 1) = 299940003
            take(0, 0) = CAST
            take(0, 1) = 49
            take(0, 1) = CAST
            take(0, 0) = -7
            take(0, 0) = EMPTY
            put(0, 1, 0, 0) = 1
            take(0, 1) = 0
            store(1) = 0
            put(1, 0, 4, 0) = 1
            take(0, 0) = EMPTY
            take(1, 0) = 4
            """);
    }

    private static void summed() {
        Script.run(CHECK, """
            sum(0, 0) = NULL
            sum(0, 3) = OUTSIDE
            sum(0, -1) = OUTSIDE
            sum(3, 0) = UNKNOWN
            sum(-1, 3) = UNKNOWN
            store(0) = 0
            sum(0, 0) = 0
            sum(0, 1) = 0
            sum(0, 2) = 0
            put(0, 0, 7, 8) = 1
            sum(0, 1) = 0
            put(0, 1, -3, 5) = 2
            put(0, 1, 1, 1) = 3
            sum(0, 0) = 5
            sum(0, 1) = 6
            sum(0, 2) = 2
            take(0, 1) = 1
            sum(0, 0) = 4
            sum(0, 1) = 5
            sum(0, 2) = 1
            """);
    }

    private static void dropped() {
        Script.run(CHECK, """
            drop(0) = NULL
            drop(3) = UNKNOWN
            drop(-1) = UNKNOWN
            store(0) = 0
            drop(0) = 0
            drop(0) = NULL
            store(0) = 0
            put(0, 0, 1, 1) = 1
            put(0, 1, 1, 1) = 2
            store(1) = 0
            put(1, 1, 1, 1) = 1
            drop(0) = 2
            put(0, 0, 1, 1) = NULL
            take(0, 0) = NULL
            sum(0, 0) = NULL
            count(2) = 1
            store(0) = 0
            sum(0, 0) = 0
            """);
    }

    private static void counted() {
        Script.run(CHECK, """
            done "net 7;bus 0 1 1 1;bus 0 1 1 1"
            text "abc"
            store(0) = 0
            store(1) = 0
            store(2) = 0
            put(0, 0, 1, 1) = 1
            put(1, 1, 1, 1) = 1
            put(2, 0, 1, 1) = 1
            put(2, 0, 1, 1) = 2
            turn() = 1
            turn() = 1
            count(0) = 3
            count(1) = 7
            count(2) = 4
            count(3) = 2
            count(4) = 3
            count(5) = OUTSIDE
            count(-1) = OUTSIDE
            count(2147483647) = OUTSIDE
            count(-2147483648) = OUTSIDE
            """);
    }
}
