/** Counts the answers that are not as due, and ends a test with exit code 1 if there was one. */
final class Check {
    private final String name;
    private int asked = 0;
    private int wrong = 0;

    Check(String name) {
        this.name = name;
    }

    void due(String call, long got, long want) {
        asked++;
        if (got != want) {
            wrong++;
            System.out.println(name + ": " + call + " answered " + got + ", due is " + want);
        }
    }

    void holds(String what, boolean fact) {
        due(what, fact ? 1 : 0, 1);
    }

    void end() {
        System.out.println(name + ": " + asked + " answers, " + wrong + " not as due");
        if (asked == 0 || wrong != 0) {
            System.exit(1);
        }
    }

    /** A desk whose text is the given one, not done yet. */
    static FaultDesk written(String text) {
        FaultDesk desk = new FaultDesk();
        write(desk, text);
        return desk;
    }

    static void write(FaultDesk desk, String text) {
        for (int i = 0; i < text.length(); i++) {
            desk.write(text.charAt(i));
        }
    }

    /** A desk on which a text has been done. */
    static FaultDesk told(String text) {
        FaultDesk desk = written(text);
        desk.net();
        return desk;
    }
}
