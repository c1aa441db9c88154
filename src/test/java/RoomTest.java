import com.sun.management.ThreadMXBean;
import java.lang.management.ManagementFactory;

/** A run of calls makes next to nothing: what a desk needs is made with it. */
public final class RoomTest {
    // A desk is asked 512 times at most: about 90 letters of its text, and 18 rounds of 23 calls.
    private static final int DESKS = 28, ROUNDS = 18;
    private static final String TEXT = "net 60;source 0 2 1;bus 0 3 1 1;bus 1 9 4 3;bus 1 0 2 2;bus 2 6 1 0;bus 0 2 2 2;relay 1 9";
    // The first calls of a method make a little inside the machine itself.
    private static final long BYTES = 200_000;

    public static void main(String[] args) {
        Check check = new Check("RoomTest");
        ThreadMXBean threads = (ThreadMXBean) ManagementFactory.getThreadMXBean();
        long used = 0;
        for (int i = 0; i < DESKS; i++) {
            FaultDesk desk = Check.told(TEXT);
            check.due("buses", desk.count(0), 6);
            long before = threads.getCurrentThreadAllocatedBytes();
            for (int round = 0; round < ROUNDS; round++) {
                useAll(desk, i * ROUNDS + round);
            }
            used += threads.getCurrentThreadAllocatedBytes() - before;
        }
        check.holds("used " + used + " bytes", used < BYTES);
        check.end();
    }

    private static void useAll(FaultDesk desk, int i) {
        desk.write('n');
        desk.fault();
        desk.net();
        desk.erase();
        desk.load(i % 4, i % 6, i % 10);
        desk.split();
        desk.join();
        desk.turn();
        desk.keep(0);
        desk.told(0, 2, 0);
        desk.fold(i % 4, 0, 0);
        desk.most(0);
        desk.match(0);
        desk.worst(i % 4, 0);
        desk.sag(i % 4, i % 6, 0, 50);
        desk.trips(i % 4, i % 6, 0);
        desk.voltage(i % 4, i % 6, 0, 3, 0, 2, 0);
        desk.undo();
        desk.back(0);
        desk.store(0);
        desk.put(0, 1, i, i);
        desk.take(0, 1);
        desk.drop(0);
    }
}
