/** Promises 7 to 17: phases told, split, turned, put back, undone, kept, folded. */
public final class PhasesTest {
    private static final Check CHECK = new Check("PhasesTest");

    public static void main(String[] args) {
        phaseTold();
        phaseRefused();
        splitAndJoin();
        turned();
        loaded();
        undone();
        kept();
        norms();
        folds();
        most();
        overAtTheBounds();
        overOnTheWay();
        overInOnePart();
        overByTurning();
        CHECK.end();
    }

    private static void phaseTold() {
        Script.run(CHECK, """
            phase(0, 6, 4, -6, 8) = 1
            told(0, 0) = 3/2
            told(0, 1) = -3/4
            phase(1, 0, 9999, 9999, 9999) = 1
            told(1, 0) = 0/1
            told(1, 1) = 1/1
            phase(2, -9999, 1, 9999, 1) = 1
            told(2, 0) = -9999/1
            told(2, 1) = 9999/1
            told(0, 0) = 3/2
            told(3, 0, 0) = UNKNOWN
            told(-1, 0, 0) = UNKNOWN
            told(3, 9, 9) = UNKNOWN
            told(0, 3, 0) = OUTSIDE
            told(0, -1, 0) = OUTSIDE
            told(0, 0, 2) = OUTSIDE
            told(0, 0, -1) = OUTSIDE
            """);
    }

    private static void phaseRefused() {
        Script.run(CHECK, """
            phase(0, 5, 1, 7, 1) = 1
            phase(3, 0, 1, 0, 1) = UNKNOWN
            phase(-1, 0, 1, 0, 1) = UNKNOWN
            phase(3, 10000, 0, 0, 0) = UNKNOWN
            phase(0, 10000, 1, 0, 1) = OUTSIDE
            phase(0, -10000, 1, 0, 1) = OUTSIDE
            phase(0, 0, 0, 0, 1) = OUTSIDE
            phase(0, 0, 10000, 0, 1) = OUTSIDE
            phase(0, 0, -1, 0, 1) = OUTSIDE
            phase(0, 0, 1, 10000, 1) = OUTSIDE
            phase(0, 0, 1, -10000, 1) = OUTSIDE
            phase(0, 0, 1, 0, 0) = OUTSIDE
            phase(0, 0, 1, 0, 10000) = OUTSIDE
            phase(0, -2147483648, 1, 0, 1) = OUTSIDE
            count(3) = 1
            told(0, 0) = 5/1
            told(0, 1) = 7/1
            """);
    }

    private static void splitAndJoin() {
        Script.run(CHECK, """
            phase(0, 1, 2, -3, 4) = 1
            phase(1, 5, 1, 0, 7) = 1
            phase(2, -1, 1, 1, 3) = 1
            split() = 1
            told(0, 0) = 3/2
            told(0, 1) = -5/36
            told(1, 0) = 11/18
            told(1, 1) = 7/4
            told(2, 0) = -29/18
            told(2, 1) = -85/36
            join() = 1
            told(0, 0) = 1/2
            told(0, 1) = -3/4
            told(1, 0) = 5/1
            told(1, 1) = 0/1
            told(2, 0) = -1/1
            told(2, 1) = 1/3
            count(3) = 5
            new
            phase(1, 3, 1, 0, 1) = 1
            split() = 1
            told(0, 0) = 1/1
            told(1, 0) = 0/1
            told(1, 1) = 1/1
            told(2, 0) = -1/1
            told(2, 1) = -1/1
            new
            phase(1, 1, 1, 0, 1) = 1
            join() = 1
            told(0, 0) = 1/1
            told(1, 0) = -1/1
            told(1, 1) = -1/1
            told(2, 0) = 0/1
            told(2, 1) = 1/1
            """);
    }

    private static void turned() {
        Script.run(CHECK, """
            phase(0, 1, 1, 4, 1) = 1
            phase(1, 2, 1, 5, 1) = 1
            phase(2, 3, 1, 6, 1) = 1
            turn() = 1
            told(0, 0) = 2/1
            told(0, 1) = 5/1
            told(1, 0) = 3/1
            told(2, 0) = 1/1
            told(2, 1) = 4/1
            undo() = 3
            told(0, 0) = 1/1
            told(1, 0) = 2/1
            told(2, 0) = 3/1
            turn() = 1
            turn() = 1
            turn() = 1
            told(0, 0) = 1/1
            count(3) = 6
            phase(0, 9, 1, 9, 1) = 1
            told(1, 0) = 2/1
            told(2, 0) = 3/1
            """);
    }

    private static void loaded() {
        Script.run(CHECK, """
            done "net 60;source 0 2 1;bus 0 3 1 1"
            load(2, 1, 1) = 1
            told(0, 0) = 0/1
            told(0, 1) = 0/1
            told(1, 0) = -50/3
            told(1, 1) = -70/3
            told(2, 0) = 20/3
            told(2, 1) = 70/3
            told(1, 2) = 1300/3
            load(0, 2, 0) = UNKNOWN
            load(9, -1, 99) = UNKNOWN
            load(4, 0, 0) = OUTSIDE
            load(-1, 0, 0) = OUTSIDE
            load(0, 0, 10) = OUTSIDE
            load(0, 0, -1) = OUTSIDE
            count(3) = 1
            undo() = 0
            told(1, 0) = 0/1
            done "net 60;source 0 0 0"
            load(0, 0, 0) = NOT
            load(1, 0, 0) = NOT
            load(2, 0, 0) = NOT
            load(3, 0, 0) = NOT
            load(2, 0, 9) = NOT
            load(4, 0, 0) = OUTSIDE
            count(3) = 0
            load(3, 0, 6) = 1
            told(0, 0) = 10/1
            told(1, 0) = -10/1
            told(1, 1) = -10/1
            told(2, 0) = 0/1
            told(2, 1) = 10/1
            """);
    }

    private static void undone() {
        Script.run(CHECK, """
            undo() = NOT
            phase(0, 1, 1, 0, 1) = 1
            phase(0, 2, 1, 0, 1) = 1
            phase(0, 3, 1, 0, 1) = 1
            phase(0, 4, 1, 0, 1) = 1
            phase(0, 5, 1, 0, 1) = 1
            phase(0, 6, 1, 0, 1) = 1
            phase(0, 7, 1, 0, 1) = 1
            phase(0, 8, 1, 0, 1) = 1
            count(3) = 8
            phase(0, 9, 1, 0, 1) = 1
            phase(0, 10, 1, 0, 1) = 1
            count(3) = 8
            undo() = 7
            told(0, 0) = 9/1
            phase(0, 11, 1, 0, 1) = 1
            count(3) = 8
            undo() = 7
            told(0, 0) = 9/1
            undo() = 6
            undo() = 5
            undo() = 4
            undo() = 3
            undo() = 2
            undo() = 1
            undo() = 0
            told(0, 0) = 2/1
            undo() = NOT
            told(0, 0) = 2/1
            split() = 1
            join() = 1
            turn() = 1
            load(3, 0, 0) = 1
            count(3) = 4
            undo() = 3
            told(0, 0) = 0/1
            undo() = 2
            told(0, 0) = 2/1
            undo() = 1
            told(1, 0) = 2/3
            undo() = 0
            told(1, 0) = 0/1
            keep(0) = 1
            count(3) = 0
            """);
    }

    private static void kept() {
        Script.run(CHECK, """
            phase(0, 1, 2, 3, 4) = 1
            back(0) = NOT
            keep(0) = 1
            phase(0, 5, 6, 7, 8) = 1
            keep(1) = 1
            phase(0, 9, 1, 9, 1) = 1
            count(3) = 3
            back(0) = 1
            count(3) = 0
            undo() = NOT
            told(0, 0) = 1/2
            told(0, 1) = 3/4
            back(1) = 1
            told(0, 0) = 5/6
            phase(0, 2, 1, 2, 1) = 1
            back(1) = 1
            told(0, 1) = 7/8
            keep(0) = 1
            turn() = 1
            back(0) = 1
            told(0, 0) = 5/6
            keep(2) = OUTSIDE
            keep(-1) = OUTSIDE
            back(2) = OUTSIDE
            back(-1) = OUTSIDE
            new
            keep(1) = 1
            back(0) = NOT
            back(1) = 1
            phase(0, 1, 1, 1, 1) = 1
            back(0) = NOT
            count(3) = 1
            """);
    }

    private static void norms() {
        Script.run(CHECK, """
            phase(0, 1, 2, -3, 4) = 1
            told(0, 2) = 19/16
            phase(0, 2, 1, 1, 1) = 1
            told(0, 2) = 3/1
            phase(0, 1, 1, 1, 1) = 1
            told(0, 2) = 1/1
            phase(0, -9999, 1, 9999, 1) = 1
            told(0, 2) = 299940003/1
            phase(0, 1, 9999, 1, 9998) = 1
            told(0, 2) = OVER/OVER
            told(0, 0) = 1/9999
            told(0, 3, 0) = OUTSIDE
            """);
    }

    private static void folds() {
        Script.run(CHECK, """
            phase(0, 1, 2, -3, 4) = 1
            phase(1, 5, 1, 0, 7) = 1
            phase(2, -1, 1, 1, 3) = 1
            fold(0, 0) = 9/2
            fold(0, 1) = -5/12
            fold(1, 0) = -9/4
            fold(1, 1) = 29/6
            fold(2, 0) = 5/1
            fold(2, 1) = 0/1
            fold(3, 0) = -9/2
            fold(3, 1) = 5/12
            fold(-1, 0, 0) = OUTSIDE
            fold(4, 0, 0) = OUTSIDE
            fold(0, 2, 0) = OUTSIDE
            fold(0, -1, 0) = OUTSIDE
            fold(0, 0, 2) = OUTSIDE
            fold(0, 0, -1) = OUTSIDE
            told(0, 0) = 1/2
            phase(0, 0, 1, 5, 1) = 1
            fold(2, 0) = 0/1
            fold(2, 1) = 5/1
            phase(2, 6, 1, 0, 1) = 1
            fold(2, 0) = 6/1
            """);
    }

    private static void most() {
        Script.run(CHECK, """
            most(0) = 0
            most(1) = 1
            most(2) = 1
            phase(1, 1, 1, 0, 1) = 1
            most(0) = 1
            most(1) = 0
            most(2) = 0
            phase(2, 0, 1, 1, 1) = 1
            most(0) = 1
            most(1) = 0
            most(2) = 0
            phase(0, -1, 1, -1, 1) = 1
            most(0) = 0
            most(1) = 1
            most(2) = 1
            phase(2, 0, 1, 3, 2) = 1
            most(0) = 2
            most(1) = 0
            most(2) = 0
            most(3) = OUTSIDE
            most(-1) = OUTSIDE
            new
            phase(2, 0, 1, 1, 1) = 1
            most(2) = 0
            phase(2, 1, 1, 0, 1) = 1
            most(2) = 0
            most(0) = 2
            """);
    }

    private static void overAtTheBounds() {
        Script.run(CHECK, """
            phase(0, 265, 1001, 0, 1) = 1
            phase(1, 382, 999, 0, 1) = 1
            phase(2, 989, 17, 0, 1) = 1
            fold(0, 0) = 1000000000/16999983
            fold(3, 0) = -1000000000/16999983
            most(2) = 0
            phase(0, 647, 1000, 0, 1) = 1
            phase(1, 529, 999, 0, 1) = 1
            phase(2, 981, 17, 0, 1) = 1
            fold(0, 0) = OVER/OVER
            fold(3, 0) = OVER/OVER
            most(2) = OVER
            phase(0, 1, 71, 0, 1) = 1
            phase(1, 1, 2251, 0, 1) = 1
            phase(2, 1, 6257, 0, 1) = 1
            fold(0, 0) = 14688575/999999997
            phase(0, 1, 258, 0, 1) = 1
            phase(1, 1, 983, 0, 1) = 1
            phase(2, 1, 3943, 0, 1) = 1
            fold(0, 0) = OVER/OVER
            fold(0, 1) = OVER/OVER
            """);
    }

    private static void overOnTheWay() {
        Script.run(CHECK, """
            phase(0, 1, 9999, 0, 1) = 1
            phase(1, 1, 9998, 0, 1) = 1
            phase(2, 1, 9997, 0, 1) = 1
            split() = OVER
            join() = OVER
            fold(0, 0) = OVER/OVER
            fold(1, 0) = 2/99960003
            fold(1, 1) = 1/99970002
            fold(3, 1) = OVER/OVER
            fold(2, 0) = 1/9997
            most(0) = 2
            most(1) = 0
            most(2) = OVER
            count(3) = 3
            told(0, 0) = 1/9999
            told(1, 0) = 1/9998
            new
            phase(0, 1, 9999, 0, 1) = 1
            phase(1, 1, 9998, 0, 1) = 1
            join() = 1
            undo() = 2
            split() = 1
            told(0, 0) = 19997/299910006
            new
            phase(0, 1, 71, 0, 1) = 1
            phase(1, 1, 2251, 0, 1) = 1
            phase(2, 1, 6257, 0, 1) = 1
            join() = 1
            undo() = 3
            split() = OVER
            new
            phase(2, 1, 9999, 1, 9998) = 1
            told(2, 2) = OVER/OVER
            most(0) = OVER
            most(1) = OVER
            most(2) = 0
            fold(2, 0) = OVER/OVER
            fold(2, 1) = OVER/OVER
            fold(0, 0) = 1/9999
            fold(0, 1) = 1/9998
            fold(4, 0, 0) = OUTSIDE
            most(3) = OUTSIDE
            """);
    }

    /** One of the three that leaves the bounds is enough, whichever it is. */
    private static void overInOnePart() {
        Script.run(CHECK, """
            phase(0, -4436, 9393, 0, 1) = 1
            phase(1, 1691, 103, 0, 1) = 1
            phase(2, 3750, 41, 0, 1) = 1
            split() = OVER
            join() = OVER
            phase(0, -9407, 6000, 0, 1) = 1
            phase(1, 0, 1, 2573, 33) = 1
            phase(2, 2398, 265, -2153, 1616) = 1
            split() = OVER
            join() = OVER
            phase(0, 136, 95, 2132, 119) = 1
            phase(1, 1325, 359, 4739, 43) = 1
            phase(2, 0, 1, 5639, 709) = 1
            split() = OVER
            join() = OVER
            count(3) = 8
            told(0, 0) = 136/95
            told(2, 1) = 5639/709
            """);
    }

    /** What is over by a turn alone, though every sum would stay within the bounds. */
    private static void overByTurning() {
        Script.run(CHECK, """
            phase(0, 1, 997, 0, 1) = 1
            phase(1, 1, 991, 1, 977) = 1
            phase(2, 1, 983, 0, 1) = 1
            join() = 1
            phase(1, 0, 1, 0, 1) = 1
            phase(2, 0, 1, 0, 1) = 1
            fold(0, 0) = 2942231/971230541
            fold(0, 1) = 1/977
            join() = 1
            undo() = 6
            turn() = 1
            join() = OVER
            fold(0, 0) = 2942231/971230541
            fold(1, 0) = 2942231/971230541
            turn() = 1
            join() = OVER
            fold(1, 0) = OVER/OVER
            fold(1, 1) = OVER/OVER
            """);
    }
}
