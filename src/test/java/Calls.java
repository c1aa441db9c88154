/** The calls of the class by their names. */
final class Calls {
    private Calls() {
    }

    static long answer(FaultDesk desk, String name, int[] n) {
        switch (name) {
            case "write": return desk.write(n[0]);
            case "erase": return desk.erase();
            case "fault": return desk.fault();
            case "net": return desk.net();
            case "bus": return desk.bus(n[0], n[1]);
            case "phase": return desk.phase(n[0], n[1], n[2], n[3], n[4]);
            case "split": return desk.split();
            case "join": return desk.join();
            case "turn": return desk.turn();
            case "load": return desk.load(n[0], n[1], n[2]);
            case "undo": return desk.undo();
            case "keep": return desk.keep(n[0]);
            case "back": return desk.back(n[0]);
            case "told": return desk.told(n[0], n[1], n[2]);
            case "fold": return desk.fold(n[0], n[1], n[2]);
            case "most": return desk.most(n[0]);
            case "current": return desk.current(n[0], n[1], n[2], n[3], n[4], n[5]);
            case "voltage": return desk.voltage(n[0], n[1], n[2], n[3], n[4], n[5], n[6]);
            case "sag": return desk.sag(n[0], n[1], n[2], n[3]);
            case "trips": return desk.trips(n[0], n[1], n[2]);
            case "worst": return desk.worst(n[0], n[1]);
            case "match": return desk.match(n[0]);
            case "store": return desk.store(n[0]);
            case "put": return desk.put(n[0], n[1], n[2], n[3]);
            case "take": return desk.take(n[0], n[1]);
            case "sum": return desk.sum(n[0], n[1]);
            case "drop": return desk.drop(n[0]);
            case "count": return desk.count(n[0]);
            default: throw new IllegalArgumentException(name);
        }
    }
}
