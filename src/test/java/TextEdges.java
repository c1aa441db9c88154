/** The edges of what is told by texts: the terms of THE NET and THE TEXT, and promises 1 to 6. */
final class TextEdges {
    private static final String FULL = "bus 0 1 1 1;bus 0 1 1 1;bus 0 1 1 1;bus 0 1 1 1;bus 0 1 1 1";
    private static final String MOST_CLAUSES = "net 5" + ";net 6".repeat(23);

    private final Sentences sentences;

    private TextEdges(Sentences sentences) {
        this.sentences = sentences;
    }

    static void hold(Sentences sentences) {
        TextEdges edges = new TextEdges(sentences);
        edges.atFirst();
        edges.voltage();
        edges.resistances();
        edges.buses();
        edges.limits();
        edges.letters();
        edges.clauses();
        edges.digits();
        edges.tokens();
        edges.ends();
        edges.done();
        edges.calls();
        edges.busAsked();
    }

    private static String blanks(int many) {
        return " ".repeat(many);
    }

    private void terms(String words, String lines) {
        sentences.hold("Terms", words, lines);
    }

    private void atFirst() {
        sentences.hold("Promise 1", "A source of 50, one bus.", """
            count(1) = 50
            count(0) = 1
            bus(0, 0) = NONE
            bus(1, 0) = UNKNOWN
            """);
        terms("(1 .. 99; 50 at first)", "count(1) = 50");
        terms("(0 .. 9 each; 1, 1, 1 at first)", """
            bus(0, 1) = 1
            bus(0, 2) = 1
            bus(0, 3) = 1
            """);
        terms("(0 at first, AT SOURCE)", """
            count(0) = 1
            bus(0, 0) = NONE
            bus(0, 8) = 0
            """);
        terms("are NUMBERS (0 at first)", """
            told(0, 0) = 0/1
            told(0, 1) = 0/1
            told(1, 0) = 0/1
            told(1, 1) = 0/1
            told(2, 0) = 0/1
            told(2, 1) = 0/1
            """);
        terms("STORES 0 .. 2 are missing (at first)", """
            drop(0) = NULL
            drop(1) = NULL
            drop(2) = NULL
            """);
        sentences.hold("What it is", "An object is used for at most 512 calls", "turn() = 1\n".repeat(510) + """
            count(3) = 8
            undo() = 7
            """);
    }

    private void voltage() {
        terms("VOLTAGE V, 1 to 99", """
            fault "net 0" = 4
            fault "net 1" = NONE
            net() = 1
            count(1) = 1
            fault "net 100" = 4
            net() = NOT
            count(1) = 1
            fault "net 99" = NONE
            net() = 1
            count(1) = 99
            """);
        terms("net: VOLTAGE V, 1 to 99, all else as at first", """
            done "source 2 3 4;bus 0 5 6 7;relay 1 8"
            done "net 9"
            count(0) = 1
            bus(0, 1) = 1
            bus(0, 2) = 1
            bus(0, 3) = 1
            done "bus 0 0 0 0"
            bus(1, 4) = 0
            """);
        terms("net: VOLTAGE V, 1 to 99, all else as at first", "done \"" + FULL + "\"\n" + "done \"net 9;" + FULL + "\"\ncount(0) = 6");
    }

    private void resistances() {
        terms("source: its RESISTANCES of KINDS 0, 1, 2", """
            fault "source 0 0 0" = NONE
            net() = 1
            bus(0, 1) = 0
            bus(0, 2) = 0
            bus(0, 3) = 0
            fault "source 9 8 7" = NONE
            net() = 1
            bus(0, 1) = 9
            bus(0, 2) = 8
            bus(0, 3) = 7
            fault "source 9 9 9" = NONE
            fault "source 10 9 9" = 7
            fault "source 9 10 9" = 9
            fault "source 9 9 10" = 11
            net() = NOT
            bus(0, 3) = 7
            """);
        terms("RESISTANCES 0 to 9", """
            fault "bus 0 0 0 0" = NONE
            fault "bus 0 9 9 9" = NONE
            fault "bus 0 10 9 9" = 6
            fault "bus 0 9 10 9" = 8
            fault "bus 0 9 9 10" = 10
            fault "bus 0 999 9 9" = 6
            fault "bus 0 9 8 7" = NONE
            net() = 1
            bus(1, 1) = 9
            bus(1, 2) = 8
            bus(1, 3) = 7
            """);
    }

    private void buses() {
        terms("BUSES 0, 1 .., 6 at most", "done \"" + FULL + "\"\n" + """
            count(0) = 6
            bus(5, 0) = 0
            bus(6, 0) = UNKNOWN
            """);
        terms("a seventh cannot stand there (at its word)", "fault \"" + FULL + "\" = NONE\n" + "fault \"" + FULL + ";bus 0 1 1 1\" = 60\n"
            + "net() = NOT\n" + "count(0) = 1\n" + "fault \"" + FULL + ";bus\" = 60\n" + "fault \"" + FULL + ";  bus 0 1 1\" = 62");
        terms("a seventh cannot stand there (at its word)", "done \"" + FULL + "\"\n" + """
            fault "bus 0 1 1 1" = 0
            fault "relay 5 1;bus 9 9 9 99" = 10
            fault "net 5;bus 0 1 1 1" = NONE
            """);
        terms("a BUS more, that hangs at BUS U, told ahead", """
            fault "bus 0 1 1 1" = NONE
            fault "bus 1 1 1 1" = 4
            fault "bus 0 1 1 1;bus 1 1 1 1" = NONE
            fault "bus 0 1 1 1;bus 2 1 1 1" = 16
            fault "bus 0 1 1 1;bus 999 1 1 1" = 16
            done "bus 0 1 1 1;bus 1 1 1 1;bus 1 1 1 1;bus 2 1 1 1"
            bus(1, 0) = 0
            bus(2, 0) = 1
            bus(3, 0) = 1
            bus(4, 0) = 2
            fault "bus 4 1 1 1" = NONE
            fault "bus 5 1 1 1" = 4
            fault "net 5;bus 1 1 1 1" = 10
            """);
        terms("each other one hangs by its LINE at one of less number", """
            fault "bus 1 1 1 1" = 4
            done "bus 0 1 1 1"
            fault "bus 2 1 1 1" = 4
            fault "bus 1 1 1 1" = NONE
            """);
    }

    private void limits() {
        terms("a RELAY's LIMIT (0 .. 999; 0: none)", """
            done "net 99;source 0 1 0;bus 0 0 0 0"
            bus(1, 4) = 0
            trips(3, 1, 0) = 0
            done "relay 1 1"
            bus(1, 4) = 1
            trips(3, 1, 0) = 2
            done "relay 1 0"
            bus(1, 4) = 0
            trips(3, 1, 0) = 0
            """);
        terms("relay: LIMIT L, 0 to 999", """
            done "bus 0 1 1 1;relay 1 999"
            bus(1, 4) = 999
            fault "relay 1 1000" = 8
            net() = NOT
            bus(1, 4) = 999
            fault "relay 1 0" = NONE
            net() = 1
            bus(1, 4) = 0
            """);
        terms("of the LINE of BUS B, told ahead, not 0", """
            fault "relay 0 5" = 6
            fault "relay 1 5" = 6
            fault "bus 0 1 1 1;relay 0 5" = 18
            fault "bus 0 1 1 1;relay 1 5" = NONE
            fault "bus 0 1 1 1;relay 2 5" = 18
            fault "relay 1 5;bus 0 1 1 1" = 6
            done "bus 0 1 1 1"
            fault "relay 0 5" = 6
            fault "relay 1 5" = NONE
            fault "relay 2 5" = 6
            fault "net 9;relay 1 5" = 12
            """);
    }

    private void letters() {
        terms("THE TEXT is a row of letters, 200 at most", "text \"net" + blanks(196) + "5\"\n" + """
            count(4) = 200
            write(53) = NOT
            write(32) = NOT
            count(4) = 200
            fault() = NONE
            net() = 1
            count(1) = 5
            count(4) = 0
            """);
        terms("THE TEXT is a row of letters, 200 at most", "text \"net" + blanks(196) + "\"\n" + """
            count(4) = 199
            fault() = 199
            write(53) = 200
            fault() = NONE
            """);
        terms("small letters a .. z", """
            fault "net`5" = 3
            fault "neta5" = 0
            fault "netz5" = 0
            fault "net{5" = 3
            fault "Net 5" = 0
            fault "neT 5" = 0
            fault "netA5" = 3
            fault "netZ5" = 3
            fault "net 5A" = 5
            fault "net 5Z" = 5
            fault "abcdefghijklmnopqrstuvwxyz" = 0
            fault "net 5 abcdefghijklmnopqrstuvwxyz" = 6
            """);
        terms("small letters a .. z", """
            text "net"
            write(181) = 4
            write(53) = 5
            fault() = 3
            text "net"
            write(233) = 4
            write(53) = 5
            fault() = 3
            """);
        terms("blanks between", "fault \"" + blanks(9) + "net" + blanks(9) + "5" + blanks(9) + ";" + blanks(9) + "net 6" + blanks(9) + "\" = NONE\n" + """
            fault "net 5;net 6" = NONE
            fault "source 123" = 7
            fault "source 1 23" = 9
            fault "ne t 5" = 0
            fault "net 1 0" = 6
            """);
        terms("blanks between", byNumbers(9, 4) + byNumbers(10, 4) + byNumbers(31, 4) + byNumbers(33, 4) + byNumbers(160, 4) + byNumbers(0, 4)
            + byNumbers(255, 4) + byNumbers(32, -1));
    }

    /** "net ?5" with a letter of a number in the middle. */
    private static String byNumbers(int letter, int due) {
        return "text \"net \"\nwrite(" + letter + ") = 5\nwrite(53) = 6\nfault() = " + (due < 0 ? "NONE" : due) + "\n";
    }

    private void clauses() {
        terms("CLAUSES with ; between, 24 at most", "text \"" + MOST_CLAUSES + "\"\n" + """
            fault() = NONE
            net() = 24
            count(1) = 6
            """);
        terms("CLAUSES with ; between, 24 at most", "text \"" + MOST_CLAUSES + ";net 7\"\n" + """
            fault() = 143
            net() = NOT
            count(1) = 50
            """);
        terms("CLAUSES with ; between, 24 at most", "fault \"" + MOST_CLAUSES + ";\" = 143\nfault \"" + MOST_CLAUSES + " ;net 7\" = 144");
        terms("CLAUSES with ; between, 24 at most", "text \"" + MOST_CLAUSES + blanks(57) + "\"\n" + """
            count(4) = 200
            fault() = NONE
            net() = 24
            """);
        terms("CLAUSES with ; between", """
            fault ";" = 0
            fault ";net 5" = 0
            fault "net 5;" = 6
            fault "net 5;;net 6" = 6
            fault "net 5 net 6" = 6
            fault "net 5,net 6" = 5
            fault "net 5;net 6" = NONE
            net() = 2
            """);
        terms("each is one of: net V. source P Q R. bus U P Q R. relay B L.", """
            fault "n 5" = 0
            fault "ne 5" = 0
            fault "nets 5" = 0
            fault "line 1" = 0
            fault "set 5" = 0
            fault "not 5" = 0
            fault "new 5" = 0
            fault "mource 1 1 1" = 0
            fault "sourde 1 1 1" = 0
            fault "gus 0 1 1 1" = 0
            fault "but 0 1 1 1" = 0
            fault "sourc 1 1 1" = 0
            fault "sources 1 1 1" = 0
            fault "bu 0 1 1 1" = 0
            fault "buses 0 1 1 1" = 0
            fault "rela 1 1" = 0
            fault "relays 1 1" = 0
            fault "bus 0 1 1 1;delay 1 1" = 12
            fault "bus 0 1 1 1;relax 1 1" = 12
            fault "5" = 0
            fault "net V" = 4
            fault "net 5." = 5
            fault "net 5 6" = 6
            fault "source 1 2 3 4" = 13
            fault "bus 0 1 2 3 4" = 12
            fault "bus 0 1 1 1;relay 1 2 3" = 22
            """);
    }

    private void digits() {
        terms("numbers of 1 to 3 digits", """
            fault "net 5" = NONE
            fault "net 05" = NONE
            fault "net 005" = NONE
            net() = 1
            count(1) = 5
            fault "net 0005" = 4
            fault "net 000" = 4
            fault "source 000 009 09" = NONE
            fault "source 0000 9 9" = 7
            fault "source 0 0009 9" = 9
            fault "source 0 0 0009" = 11
            fault "bus 000 1 1 1" = NONE
            fault "bus 0000 1 1 1" = 4
            fault "bus 0 1 1 0001" = 10
            """);
        terms("numbers of 1 to 3 digits", """
            done "bus 0 1 1 1"
            fault "relay 001 099" = NONE
            fault "relay 0001 99" = 6
            fault "relay 1 0099" = 8
            fault "net 2147483653" = 4
            fault "net 4294967301" = 4
            fault "net 18446744073709551621" = 4
            """);
        terms("a row of digits", """
            fault "net/5" = 3
            fault "net:5" = 3
            fault "net 5/" = 5
            fault "net 5:" = 5
            fault "net 09" = NONE
            fault "net 90" = NONE
            fault "net 1234567890" = 4
            """);
    }

    private void tokens() {
        terms("A FAULT of a text is at the first TOKEN", """
            fault "net 0;net 0" = 4
            fault "xyz 5;net 0" = 0
            fault "net 5;xyz;net 0" = 6
            fault "net 5;net 100;?" = 10
            """);
        terms("(a row of small letters, a row of digits, any other letter) that cannot stand there", """
            fault "  xyz" = 2
            fault "net xyz" = 4
            fault "net xyz5" = 4
            fault "net 123" = 4
            fault "net123x" = 3
            fault "net 12x" = 6
            fault "net 12xyz" = 6
            fault "net ;;" = 4
            fault "net 12--" = 6
            fault "net -5" = 4
            fault "net +5" = 4
            fault "source 1 net" = 9
            fault "source 1;2 3" = 8
            fault "net source 1 2 3" = 4
            """);
        terms("(a number out of its bounds, of more digits, also)", """
            fault "net 100" = 4
            fault "net 0001" = 4
            fault "source 1 1 10;" = 11
            fault "bus 1 1 1 1" = 4
            """);
    }

    private void ends() {
        terms("or at the end, if it comes too soon", """
            fault "" = 0
            fault " " = 1
            fault "net" = 3
            fault "net " = 4
            fault "source" = 6
            fault "source 1" = 8
            fault "source 1 2" = 10
            fault "source 1 2  " = 12
            fault "bus" = 3
            fault "bus 0" = 5
            fault "bus 0 1" = 7
            fault "bus 0 1 2" = 9
            fault "relay" = 5
            fault "bus 0 1 1 1;relay 1" = 19
            fault "net 5;" = 6
            fault "net 5;  " = 8
            """);
        terms("or at the end, if it comes too soon", "fault \"" + blanks(200) + "\" = 200");
        terms("or at the end, if it comes too soon", "fault \"net" + blanks(197) + "\" = 200");
    }

    private void done() {
        terms("CLAUSES are done in their order.", """
            done "net 5;net 6;net 7"
            count(1) = 7
            done "source 1 1 1;source 2 2 2"
            bus(0, 1) = 2
            done "bus 0 1 1 1;net 8"
            count(0) = 1
            done "bus 0 1 1 1;relay 1 5;relay 1 6"
            bus(1, 4) = 6
            done "net 8;bus 0 1 2 3;bus 0 4 5 6"
            bus(1, 1) = 1
            bus(2, 1) = 4
            """);
        terms("what earlier texts told stays as it was told", """
            done "net 60;source 2 3 4;bus 0 1 2 3;relay 1 9"
            done "bus 1 5 6 7"
            count(1) = 60
            count(0) = 3
            bus(0, 1) = 2
            bus(0, 2) = 3
            bus(0, 3) = 4
            bus(1, 0) = 0
            bus(1, 1) = 1
            bus(1, 2) = 2
            bus(1, 3) = 3
            bus(1, 4) = 9
            bus(2, 0) = 1
            bus(2, 3) = 7
            bus(2, 4) = 0
            done "source 0 0 0"
            bus(1, 4) = 9
            count(0) = 3
            """);
        terms("Behind them PHASES are all 0", """
            phase(0, 1, 2, 3, 4) = 1
            phase(1, 1, 2, 3, 4) = 1
            phase(2, 1, 2, 3, 4) = 1
            done "source 1 1 1"
            told(0, 0) = 0/1
            told(0, 1) = 0/1
            told(1, 0) = 0/1
            told(1, 1) = 0/1
            told(2, 0) = 0/1
            told(2, 1) = 0/1
            """);
        terms("nothing is kept or can be undone", """
            phase(0, 1, 2, 3, 4) = 1
            keep(0) = 1
            keep(1) = 1
            done "source 1 1 1"
            back(0) = NOT
            back(1) = NOT
            count(3) = 0
            undo() = NOT
            turn() = 1
            undo() = 0
            undo() = NOT
            """);
        terms("STORES are all missing.", """
            store(0) = 0
            store(1) = 0
            store(2) = 0
            put(1, 0, 1, 1) = 1
            put(2, 1, 1, 1) = 1
            done "source 1 1 1"
            count(2) = 0
            take(0, 0) = NULL
            sum(1, 0) = NULL
            put(2, 0, 1, 1) = NULL
            drop(2) = NULL
            store(2) = 0
            sum(2, 0) = 0
            """);
    }

    private void calls() {
        sentences.hold("Promise 2", "A letter (its number, 0 .. 255) more of THE TEXT: how many it has.", """
            write(0) = 1
            write(255) = 2
            write(-1) = OUTSIDE
            write(256) = OUTSIDE
            write(-2147483648) = OUTSIDE
            write(2147483647) = OUTSIDE
            count(4) = 2
            """);
        sentences.hold("Promise 2", "OUTSIDE; NOT: it has 200.", "text \"" + blanks(199) + "\"\n" + """
            write(255) = 200
            write(0) = NOT
            write(256) = OUTSIDE
            write(-1) = OUTSIDE
            count(4) = 200
            """);
        sentences.hold("Promise 3", "THE TEXT is empty: how many letters it had.", """
            erase() = 0
            write(32) = 1
            erase() = 1
            erase() = 0
            count(4) = 0
            fault() = 0
            write(32) = 1
            """ + "text \"" + blanks(200) + "\"\n" + """
            erase() = 200
            count(4) = 0
            write(32) = 1
            """);
        sentences.hold("Promise 4", "(the letter with which the TOKEN begins, or the length); NONE.", """
            fault() = 0
            fault "x" = 0
            fault "net 5" = NONE
            fault "net 5 " = NONE
            fault "net" = 3
            """ + "text \"net 5" + blanks(194) + "x\"\n" + """
            fault() = 199
            fault() = 199
            count(4) = 200
            """);
        sentences.hold("Promise 4", "The place of the FAULT of THE TEXT", """
            phase(0, 1, 1, 1, 1) = 1
            store(0) = 0
            fault "net 9;bus 0 1 1 1" = NONE
            count(0) = 1
            count(1) = 50
            count(3) = 1
            count(4) = 17
            sum(0, 0) = 0
            told(0, 0) = 1/1
            """);
        sentences.hold("Promise 5", "THE TEXT's CLAUSES are done, and it is empty then: how many there were.", """
            text "net 9"
            net() = 1
            count(4) = 0
            count(1) = 9
            text "bus 0 1 1 1;bus 1 1 1 1"
            net() = 2
            count(4) = 0
            erase() = 0
            """);
        sentences.hold("Promise 5", "NOT: it has a FAULT.", """
            net() = NOT
            text "net 9;bus 0 1 1 1;source 1 1"
            net() = NOT
            count(0) = 1
            count(1) = 50
            count(4) = 28
            fault() = 28
            write(32) = 29
            write(55) = 30
            net() = 3
            count(0) = 2
            count(1) = 9
            bus(0, 3) = 7
            """);
    }

    private void busAsked() {
        String chain = "done \"net 9;source 9 9 9;bus 0 9 9 9;bus 1 9 9 9;bus 2 9 9 9;bus 3 9 9 9;bus 4 9 9 8;relay 5 999\"\n";
        sentences.hold("Promise 6", "the one at which it hangs (what 0; NONE of 0)", chain + """
            bus(0, 0) = NONE
            bus(1, 0) = 0
            bus(5, 0) = 4
            """);
        sentences.hold("Promise 6", "its LINE's RESISTANCES (1, 2, 3; of BUS 0 those of SOURCE)", """
            done "source 0 1 2;bus 0 3 4 5"
            bus(0, 1) = 0
            bus(0, 2) = 1
            bus(0, 3) = 2
            bus(1, 1) = 3
            bus(1, 2) = 4
            bus(1, 3) = 5
            """);
        sentences.hold("Promise 6", "LIMIT (4; of BUS 0: 0)", chain + """
            bus(0, 4) = 0
            bus(4, 4) = 0
            bus(5, 4) = 999
            """);
        sentences.hold("Promise 6", "Z 0, Z 1, Z 2 (5, 6, 7), LINES up to it (8).", chain + """
            bus(0, 5) = 9
            bus(0, 6) = 9
            bus(0, 7) = 9
            bus(0, 8) = 0
            bus(1, 5) = 18
            bus(1, 8) = 1
            bus(5, 5) = 54
            bus(5, 6) = 54
            bus(5, 7) = 53
            bus(5, 8) = 5
            done "net 9;source 0 0 0;bus 0 0 0 0"
            bus(1, 5) = 0
            bus(1, 6) = 0
            bus(1, 7) = 0
            bus(1, 8) = 1
            """);
        sentences.hold("Promise 6", "UNKNOWN; OUTSIDE.", chain + """
            bus(-1, 0) = UNKNOWN
            bus(6, 0) = UNKNOWN
            bus(5, -1) = OUTSIDE
            bus(5, 9) = OUTSIDE
            bus(0, -1) = OUTSIDE
            bus(0, 9) = OUTSIDE
            bus(6, 9) = UNKNOWN
            bus(-1, -1) = UNKNOWN
            """);
    }
}
