/** Promises 1 to 6: a new object, and what is told by texts. */
public final class ToldTest {
    private static final Check CHECK = new Check("ToldTest");

    public static void main(String[] args) {
        newObject();
        writeAndErase();
        faultOfWords();
        faultOfNumbers();
        faultOfTokens();
        faultOfBuses();
        faultOfClauses();
        netDone();
        netRefused();
        netOnNet();
        netStartsAnew();
        busOfTree();
        CHECK.end();
    }

    private static void newObject() {
        Script.run(CHECK, """
            count(0) = 1
            count(1) = 50
            count(2) = 0
            count(3) = 0
            count(4) = 0
            bus(0, 0) = NONE
            bus(0, 1) = 1
            bus(0, 2) = 1
            bus(0, 3) = 1
            bus(0, 4) = 0
            bus(0, 8) = 0
            bus(1, 0) = UNKNOWN
            told(0, 0) = 0/1
            told(1, 1) = 0/1
            told(2, 2) = 0/1
            undo() = NOT
            back(0) = NOT
            back(1) = NOT
            drop(0) = NULL
            drop(1) = NULL
            drop(2) = NULL
            """);
    }

    private static void writeAndErase() {
        Script.run(CHECK, """
            erase() = 0
            write(0) = 1
            write(255) = 2
            write(256) = OUTSIDE
            write(-1) = OUTSIDE
            write(2147483647) = OUTSIDE
            write(-2147483648) = OUTSIDE
            count(4) = 2
            erase() = 2
            count(4) = 0
            erase() = 0
            write(110) = 1
            """);
        FaultDesk desk = new FaultDesk();
        for (int i = 1; i <= 200; i++) {
            CHECK.due("write " + i, desk.write(' '), i);
        }
        CHECK.due("write beyond 200", desk.write(' '), FaultDesk.NOT);
        CHECK.due("write beyond 200, outside first", desk.write(256), FaultDesk.OUTSIDE);
        CHECK.due("fault of blanks", desk.fault(), 200);
        CHECK.due("erase of 200", desk.erase(), 200);
        CHECK.due("write again", desk.write(' '), 1);
    }

    private static void faultOfWords() {
        Script.run(CHECK, """
            fault "" = 0
            fault "   " = 3
            fault "n" = 0
            fault "ne 5" = 0
            fault "nets 5" = 0
            fault "nett5" = 0
            fault "netz 5" = 0
            fault "neta 5" = 0
            fault "line 1" = 0
            fault "Net 5" = 0
            fault "5" = 0
            fault ";" = 0
            fault "  x" = 2
            fault "net" = 3
            fault "net  " = 5
            fault "net 5" = NONE
            fault " net  5 " = NONE
            fault "net5" = NONE
            fault "net 5 net 6" = 6
            fault "net 5 6" = 6
            fault "net net" = 4
            fault "net ;" = 4
            fault "net source 1 2 3" = 4
            fault "source net 5" = 7
            fault "bus relay 1 1" = 4
            fault "source 1 2 3" = NONE
            fault "source 1 2" = 10
            fault "source 1 2;" = 10
            fault "source 1 2 3 4" = 13
            fault "relay" = 5
            fault "bus" = 3
            """);
    }

    private static void faultOfNumbers() {
        Script.run(CHECK, """
            fault "net 0" = 4
            fault "net 1" = NONE
            fault "net 99" = NONE
            fault "net 100" = 4
            fault "net 001" = NONE
            fault "net 0001" = 4
            fault "net 000" = 4
            fault "net 99999999999999999999" = 4
            fault "net -1" = 4
            fault "net 5.0" = 5
            fault "source 9 9 9" = NONE
            fault "source 10 9 9" = 7
            fault "source 9 10 9" = 9
            fault "source 9 9 10" = 11
            fault "source 009 09 9" = NONE
            fault "bus 0 9 9 9" = NONE
            fault "bus 0 10 9 9" = 6
            fault "bus 0 9 10 9" = 8
            fault "bus 0 9 9 10" = 10
            fault "bus 0 9 9" = 9
            fault "bus 0 1 1 1;relay 1 0" = NONE
            fault "bus 0 1 1 1;relay 1 999" = NONE
            fault "bus 0 1 1 1;relay 1 1000" = 20
            fault "bus 0 1 1 1;relay 1" = 19
            fault "bus 0 1 1 1;relay 0 5" = 18
            fault "bus 0 1 1 1;relay 2 5" = 18
            fault "relay 0 5" = 6
            fault "relay 1 5" = 6
            """);
    }

    private static void faultOfTokens() {
        Script.run(CHECK, """
            fault "net 5x" = 5
            fault "net5x6" = 4
            fault "net 5X" = 5
            fault "net 5;;" = 6
            fault "net 5;" = 6
            fault "net 5; " = 7
            fault "net 5 ; net 6" = NONE
            fault "net 5;net 6" = NONE
            fault "net 5,net 6" = 5
            fault "net 5`" = 5
            fault "net 5{" = 5
            fault "net 5/" = 5
            fault "net 5:" = 5
            fault "ne t 5" = 0
            fault "source123" = 6
            fault "source1 2 3" = NONE
            """);
        FaultDesk tab = Check.written("net\t5");
        CHECK.due("a tab is no blank", tab.fault(), 3);
        FaultDesk high = Check.written("net 5" + (char) 160);
        CHECK.due("nor is 160", high.fault(), 5);
        FaultDesk low = Check.written("net 5" + (char) 0);
        CHECK.due("nor is 0", low.fault(), 5);
    }

    private static void faultOfBuses() {
        Script.run(CHECK, """
            fault "bus 1 1 1 1" = 4
            fault "bus 0 1 1 1;bus 1 0 0 0;bus 2 0 0 0" = NONE
            fault "bus 0 1 1 1;bus 2 0 0 0" = 16
            fault "bus 0 1 1 1;net 5;bus 1 1 1 1" = 22
            fault "bus 0 1 1 1;net 5;relay 1 1" = 24
            fault "bus 0 1 1 1;bus 0 1 1 1;bus 0 1 1 1;bus 0 1 1 1;bus 0 1 1 1" = NONE
            fault "bus 0 1 1 1;bus 0 1 1 1;bus 0 1 1 1;bus 0 1 1 1;bus 0 1 1 1;bus 0 1 1 1" = 60
            fault "bus 0 1 1 1;bus 0 1 1 1;bus 0 1 1 1;bus 0 1 1 1;bus 0 1 1 1;bus" = 60
            fault "bus 0 1 1 1;bus 0 1 1 1;bus 0 1 1 1;bus 0 1 1 1;bus 0 1 1 1;net 5;bus 0 1 1 1" = NONE
            new
            done "bus 0 1 1 1;bus 0 1 1 1;bus 0 1 1 1"
            fault "bus 3 1 1 1" = NONE
            fault "bus 4 1 1 1" = 4
            fault "relay 3 1" = NONE
            fault "relay 4 1" = 6
            fault "bus 0 1 1 1;bus 0 1 1 1;bus 0 1 1 1" = 24
            fault "net 5;bus 0 1 1 1;bus 0 1 1 1;bus 0 1 1 1" = NONE
            """);
    }

    private static void faultOfClauses() {
        String most = "net 5" + ";net 6".repeat(23);
        FaultDesk desk = Check.written(most);
        CHECK.due("24 clauses", desk.fault(), FaultDesk.NONE);
        CHECK.due("24 clauses done", desk.net(), 24);
        CHECK.due("in their order", desk.count(1), 6);
        CHECK.due("a 25th", Check.written(most + ";net 7").fault(), most.length());
        CHECK.due("a 25th, not done", Check.written(most + ";net 7").net(), FaultDesk.NOT);
        CHECK.due("nothing but ; behind the 24th", Check.written(most + ";").fault(), most.length());
        CHECK.due("blanks behind the 24th", Check.written(most + "  ").fault(), FaultDesk.NONE);
    }

    private static void netDone() {
        Script.run(CHECK, """
            text "net 60;source 0 2 1;bus 0 3 1 1;relay 1 9;relay 1 7"
            fault() = NONE
            count(1) = 50
            net() = 5
            count(0) = 2
            count(1) = 60
            count(4) = 0
            bus(0, 1) = 0
            bus(0, 2) = 2
            bus(0, 3) = 1
            bus(1, 4) = 7
            net() = NOT
            text "net 7"
            net() = 1
            count(0) = 1
            count(1) = 7
            bus(0, 1) = 1
            bus(0, 2) = 1
            bus(0, 3) = 1
            bus(1, 4) = UNKNOWN
            done "bus 0 1 1 1"
            bus(1, 4) = 0
            count(1) = 7
            """);
    }

    private static void netRefused() {
        Script.run(CHECK, """
            phase(0, 3, 1, 0, 1) = 1
            keep(1) = 1
            store(2) = 0
            put(2, 0, 5, 0) = 1
            text "net 60;bus 0 1 1 1;relay 2 5"
            net() = NOT
            count(0) = 1
            count(1) = 50
            count(2) = 1
            count(3) = 1
            count(4) = 28
            told(0, 0) = 3/1
            undo() = 0
            back(1) = 1
            told(0, 0) = 3/1
            """);
    }

    private static void netOnNet() {
        Script.run(CHECK, """
            done "net 60;source 2 3 4;bus 0 1 2 3;relay 1 9"
            done "bus 1 5 5 5"
            count(0) = 3
            count(1) = 60
            bus(0, 2) = 3
            bus(1, 4) = 9
            bus(2, 0) = 1
            bus(2, 5) = 8
            done "source 0 0 0"
            bus(2, 5) = 6
            bus(0, 1) = 0
            count(0) = 3
            done "relay 1 0"
            bus(1, 4) = 0
            bus(1, 2) = 2
            done "bus 0 1 1 1;net 9;source 7 8 9"
            count(0) = 1
            count(1) = 9
            bus(0, 1) = 7
            bus(0, 3) = 9
            """);
    }

    private static void netStartsAnew() {
        Script.run(CHECK, """
            phase(0, 3, 1, 4, 5) = 1
            phase(2, 3, 1, 4, 5) = 1
            keep(0) = 1
            keep(1) = 1
            store(0) = 0
            store(1) = 0
            put(1, 0, 5, 0) = 1
            done "source 1 1 1"
            told(0, 0) = 0/1
            told(0, 1) = 0/1
            told(2, 0) = 0/1
            count(2) = 0
            count(3) = 0
            undo() = NOT
            back(0) = NOT
            back(1) = NOT
            drop(0) = NULL
            put(1, 0, 5, 0) = NULL
            """);
    }

    private static void busOfTree() {
        Script.run(CHECK, """
            done "net 60;source 0 2 1;bus 0 3 1 1;bus 1 9 4 3;bus 1 0 2 2;bus 2 6 1 0;bus 0 2 2 2;relay 1 9;relay 5 30"
            bus(0, 0) = NONE
            bus(0, 4) = 0
            bus(0, 5) = 0
            bus(0, 6) = 2
            bus(0, 7) = 1
            bus(0, 8) = 0
            bus(4, 0) = 2
            bus(4, 1) = 6
            bus(4, 2) = 1
            bus(4, 3) = 0
            bus(4, 4) = 0
            bus(4, 5) = 18
            bus(4, 6) = 8
            bus(4, 7) = 5
            bus(4, 8) = 3
            bus(5, 0) = 0
            bus(5, 4) = 30
            bus(5, 5) = 2
            bus(5, 6) = 4
            bus(5, 7) = 3
            bus(5, 8) = 1
            bus(6, 0) = UNKNOWN
            bus(-1, 0) = UNKNOWN
            bus(6, 9) = UNKNOWN
            bus(5, 9) = OUTSIDE
            bus(5, -1) = OUTSIDE
            bus(2147483647, 0) = UNKNOWN
            bus(-2147483648, 0) = UNKNOWN
            bus(0, 2147483647) = OUTSIDE
            """);
    }
}
