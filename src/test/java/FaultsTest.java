/** Promises 18 to 23: currents and voltages of faults, and what is asked of them. */
public final class FaultsTest {
    private static final Check CHECK = new Check("FaultsTest");
    // Z 0, 1, 2 of the buses: 0 2 1, 3 3 2, 12 7 5, 3 5 4, 18 8 5, 2 4 3.
    private static final String NET = """
        done "net 60;source 0 2 1;bus 0 3 1 1;bus 1 9 4 3;bus 1 0 2 2;bus 2 6 1 0;bus 0 2 2 2;relay 1 9;relay 2 4;relay 5 30"
        """;
    private static final String NO_OHMS = """
        done "net 9;source 0 0 0;bus 0 0 0 0;bus 0 0 0 1;bus 0 9 0 0"
        """;

    public static void main(String[] args) {
        currents();
        currentsRefused();
        voltages();
        voltagesRefused();
        sags();
        trips();
        worst();
        matches();
        nothingIsOver();
        CHECK.end();
    }

    private static void currents() {
        Script.run(CHECK, NET + """
            current(0, 1, 0, 0, 0) = 45/2
            current(0, 1, 0, 0, 1) = 0/1
            current(0, 1, 0, 0, 2) = 2025/4
            current(0, 1, 0, 1, 0) = 0/1
            current(0, 1, 0, 1, 2) = 0/1
            current(0, 1, 0, 2, 1) = 0/1
            current(0, 1, 4, 0, 0) = 9/1
            current(1, 1, 1, 0, 0) = 0/1
            current(1, 1, 1, 1, 0) = -10/1
            current(1, 1, 1, 1, 1) = -20/1
            current(1, 1, 1, 1, 2) = 300/1
            current(1, 1, 1, 2, 0) = 10/1
            current(1, 1, 1, 2, 1) = 20/1
            current(2, 1, 1, 0, 0) = 0/1
            current(2, 1, 1, 0, 1) = 0/1
            current(2, 1, 1, 1, 0) = -50/3
            current(2, 1, 1, 1, 1) = -70/3
            current(2, 1, 1, 1, 2) = 1300/3
            current(2, 1, 1, 2, 0) = 20/3
            current(2, 1, 1, 2, 1) = 70/3
            current(3, 1, 2, 0, 0) = 12/1
            current(3, 1, 2, 1, 0) = -12/1
            current(3, 1, 2, 1, 1) = -12/1
            current(3, 1, 2, 2, 0) = 0/1
            current(3, 1, 2, 2, 1) = 12/1
            current(3, 1, 2, 2, 2) = 144/1
            count(3) = 0
            told(0, 0) = 0/1
            """);
    }

    private static void currentsRefused() {
        Script.run(CHECK, NO_OHMS + """
            current(0, 0, 0, 0, 0, 0) = NOT
            current(0, 2, 0, 0, 0) = 27/1
            current(0, 3, 0, 0, 0) = 3/1
            current(1, 3, 0, 0, 0, 0) = NOT
            current(1, 2, 0, 1, 1) = -18/1
            current(2, 2, 0, 0, 0, 0) = NOT
            current(2, 2, 1, 1, 1) = -21/1
            current(2, 0, 9, 0, 0, 0) = NOT
            current(3, 2, 0, 0, 0, 0) = NOT
            current(3, 2, 1, 0, 0) = 9/1
            current(0, 4, 0, 0, 0, 0) = UNKNOWN
            current(0, -1, 0, 0, 0, 0) = UNKNOWN
            current(0, 0, 0, 3, 0, 0) = UNKNOWN
            current(9, 0, 0, -1, 0, 0) = UNKNOWN
            current(4, 0, 0, 0, 0, 0) = OUTSIDE
            current(-1, 0, 0, 0, 0, 0) = OUTSIDE
            current(0, 0, 10, 0, 0, 0) = OUTSIDE
            current(0, 0, -1, 0, 0, 0) = OUTSIDE
            current(0, 0, 0, 0, 3, 0) = OUTSIDE
            current(0, 0, 0, 0, -1, 0) = OUTSIDE
            current(0, 0, 0, 0, 0, 2) = OUTSIDE
            current(0, 0, 0, 0, 0, -1) = OUTSIDE
            """);
    }

    private static void voltages() {
        Script.run(CHECK, NET + """
            voltage(3, 1, 2, 1, 0, 0) = 24/1
            voltage(3, 1, 2, 3, 0, 0) = 24/1
            voltage(3, 1, 2, 4, 1, 0) = -24/1
            voltage(3, 1, 2, 4, 1, 1) = -24/1
            voltage(3, 1, 2, 4, 2, 2) = 576/1
            voltage(3, 1, 2, 5, 0, 0) = 36/1
            voltage(3, 1, 2, 0, 0, 2) = 1296/1
            voltage(0, 1, 0, 1, 0, 0) = 0/1
            voltage(0, 1, 0, 1, 1, 0) = -60/1
            voltage(0, 1, 0, 1, 1, 1) = -105/2
            voltage(0, 1, 0, 1, 2, 0) = -15/2
            voltage(0, 1, 0, 1, 2, 1) = 105/2
            voltage(0, 1, 0, 0, 0, 0) = 75/2
            voltage(1, 1, 0, 1, 1, 0) = -24/1
            voltage(1, 1, 0, 1, 1, 1) = 0/1
            voltage(1, 1, 0, 1, 2, 0) = -24/1
            voltage(1, 1, 0, 1, 0, 0) = 48/1
            voltage(2, 1, 1, 1, 0, 0) = 50/1
            voltage(2, 1, 1, 1, 1, 0) = -10/1
            voltage(2, 1, 1, 1, 1, 1) = 0/1
            voltage(2, 1, 1, 1, 2, 0) = -10/1
            voltage(2, 3, 1, 4, 0, 1) = 0/1
            count(3) = 0
            """);
    }

    private static void voltagesRefused() {
        Script.run(CHECK, NO_OHMS + """
            voltage(3, 0, 0, 0, 0, 0, 0) = NOT
            voltage(3, 0, 1, 0, 0, 0) = 9/1
            voltage(0, 4, 0, 0, 0, 0, 0) = UNKNOWN
            voltage(0, -1, 0, 0, 0, 0, 0) = UNKNOWN
            voltage(0, 0, 0, 4, 0, 0, 0) = UNKNOWN
            voltage(0, 0, 0, -1, 0, 0, 0) = UNKNOWN
            voltage(0, 0, 0, 0, 3, 0, 0) = UNKNOWN
            voltage(9, 0, 10, 0, -1, 3, 2) = UNKNOWN
            voltage(4, 0, 0, 0, 0, 0, 0) = OUTSIDE
            voltage(-1, 0, 0, 0, 0, 0, 0) = OUTSIDE
            voltage(0, 0, 10, 0, 0, 0, 0) = OUTSIDE
            voltage(0, 0, -1, 0, 0, 0, 0) = OUTSIDE
            voltage(0, 0, 0, 0, 0, 3, 0) = OUTSIDE
            voltage(0, 0, 0, 0, 0, -1, 0) = OUTSIDE
            voltage(0, 0, 0, 0, 0, 0, 2) = OUTSIDE
            voltage(0, 0, 0, 0, 0, 0, -1) = OUTSIDE
            """);
    }

    private static void sags() {
        Script.run(CHECK, NET + """
            sag(3, 1, 2, 0) = 0
            sag(3, 1, 2, 40) = 0
            sag(3, 1, 2, 41) = 30
            sag(3, 1, 2, 60) = 30
            sag(3, 1, 2, 61) = 63
            sag(3, 1, 2, 100) = 63
            sag(3, 5, 2, 33) = 0
            sag(3, 5, 2, 34) = 32
            sag(3, 5, 2, 66) = 32
            sag(3, 5, 2, 67) = 63
            sag(0, 1, 0, 1) = 30
            sag(0, 1, 0, 0) = 0
            sag(3, 1, 2, 101) = OUTSIDE
            sag(3, 1, 2, -1) = OUTSIDE
            sag(4, 1, 2, 50) = OUTSIDE
            sag(-1, 1, 2, 50) = OUTSIDE
            sag(3, 1, 10, 50) = OUTSIDE
            sag(3, 1, -1, 50) = OUTSIDE
            sag(3, 6, 2, 50) = UNKNOWN
            sag(9, -1, 99, 999) = UNKNOWN
            """ + NO_OHMS + """
            sag(3, 0, 0, 100) = NOT
            sag(3, 0, 0, 101) = OUTSIDE
            sag(3, 0, 1, 100) = 0
            """);
    }

    private static void trips() {
        Script.run(CHECK, NET + """
            trips(3, 4, 0) = 4
            trips(3, 1, 2) = 2
            trips(3, 2, 0) = 4
            trips(3, 2, 8) = 0
            trips(3, 0, 0) = 0
            trips(3, 5, 0) = 0
            trips(3, 3, 0) = 2
            trips(0, 1, 4) = 0
            trips(1, 1, 1) = 2
            trips(1, 2, 0) = 4
            done "relay 1 8"
            trips(0, 1, 4) = 2
            done "relay 1 1"
            trips(0, 1, 4) = 2
            done "relay 1 0"
            trips(0, 1, 4) = 0
            trips(3, 1, 2) = 0
            trips(3, 6, 0) = UNKNOWN
            trips(9, -1, 99) = UNKNOWN
            trips(4, 1, 0) = OUTSIDE
            trips(-1, 1, 0) = OUTSIDE
            trips(3, 1, 10) = OUTSIDE
            trips(3, 1, -1) = OUTSIDE
            """ + NO_OHMS + """
            trips(3, 1, 0) = NOT
            trips(4, 1, 0) = OUTSIDE
            """);
    }

    private static void worst() {
        Script.run(CHECK, NET + """
            worst(0, 0) = 0
            worst(3, 9) = 0
            worst(4, 0) = OUTSIDE
            worst(-1, 0) = OUTSIDE
            worst(0, 10) = OUTSIDE
            worst(0, -1) = OUTSIDE
            """ + NO_OHMS + """
            worst(0, 0) = 2
            worst(1, 0) = 2
            worst(2, 0) = NONE
            worst(3, 0) = NONE
            worst(3, 1) = 0
            done "net 9;source 0 0 0;bus 0 5 5 5;bus 0 4 4 4;bus 0 4 4 4"
            worst(0, 0) = 2
            worst(1, 0) = 2
            worst(2, 0) = 2
            worst(3, 0) = 2
            """);
    }

    private static void matches() {
        Script.run(CHECK, NET + """
            match(0) = 0
            match(1) = NONE
            load(3, 1, 2) = 1
            match(0) = 4
            match(1) = 30003
            load(2, 4, 9) = 1
            match(0) = 1
            match(1) = 20409
            turn() = 1
            match(0) = 0
            match(1) = NONE
            match(2) = OUTSIDE
            match(-1) = OUTSIDE
            phase(0, 45, 2, 0, 1) = 1
            phase(1, 0, 1, 0, 1) = 1
            phase(2, 0, 1, 0, 1) = 1
            match(0) = 1
            match(1) = 100
            phase(2, 0, 1, 1, 1) = 1
            match(0) = 0
            phase(2, 1, 1, 0, 1) = 1
            match(0) = 0
            """ + NO_OHMS + """
            load(0, 0, 1) = 1
            match(0) = 2
            match(1) = 1
            undo() = 0
            match(0) = 0
            """);
    }

    /** Norms of faults may be beyond the bounds of phases, and are told nevertheless. */
    private static void nothingIsOver() {
        Script.run(CHECK, """
            done "net 97;source 9 9 8;bus 0 9 9 9;bus 1 8 9 9;bus 2 9 7 9;bus 3 9 9 9;bus 4 9 9 9"
            voltage(2, 5, 7, 5, 0, 2) = 1067793622281/110796676
            voltage(2, 5, 7, 3, 1, 2) = 153266767011/110796676
            load(2, 5, 7) = 1
            """);
    }
}
