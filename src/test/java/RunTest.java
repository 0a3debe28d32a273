/** Promises 9 to 13: run, undo, of, takes, at. */
public final class RunTest {
    public static void main(String[] args) {
        run();
        undo();
        kinds();
        takes();
        at();
        leaksBack();
        staysJustLongEnough();
        standsRightNeverLeaks();
        Check.end();
    }

    private static final int[][] WRONG_RUNS = {
        {-1, 0, 1, 0}, {2, 0, 1, 0}, {0, -1, 1, 0}, {0, 3, 1, 0},
        {0, 0, 0, 0}, {0, 0, 10, 0}, {0, 0, 1, -1}, {0, 0, 1, 2}};

    private static void run() {
        LockFlight x = Check.flight(5, Check.lock(0, 1, 3), Check.lock(4, 0, 7));
        for (int[] r : WRONG_RUNS) {
            Check.due("wrong run", x.run(r[0], r[1], r[2], r[3]), -2);
        }
        Check.due("a refused run may not be undone", x.count(5), 0);
        // up: 4 + 6, 3 on the way, 9
        Check.due("run up", x.run(0, 0, 1, 0), 22);
        Check.due("TIME", x.count(2), 22);
        Check.due("WATER", x.count(3), 3);
        Check.due("lock 0 high", x.of(0, 1), 1);
        Check.due("lock 1 high", x.of(1, 1), 1);
        // down, shut: 9 + 2, 3, 6 + 2
        Check.due("run down", x.run(1, 0, 1, 1), 22);
        Check.due("TIME of both", x.count(2), 44);
        Check.due("WATER of both", x.count(3), 5);
        Check.due("lock 0 low", x.of(0, 1), 0);
        Check.due("lock 1 low", x.of(1, 1), 0);
        LockFlight none = new LockFlight();
        Check.due("run without locks", none.run(1, 2, 9, 1), 0);
        Check.due("it may be undone", none.count(5), 1);
        Check.due("no water", none.count(3), 0);
    }

    private static void undo() {
        LockFlight x = Check.flight(5, Check.lock(0, 1, 3), Check.lock(0, 0, 7));
        Check.due("nothing to undo", x.undo(), -3);
        x.run(0, 0, 1, 0);
        x.turn(1);
        x.run(1, 0, 1, 0);
        Check.due("TIME", x.count(2), 19 + 19);
        Check.due("undo the run down", x.undo(), 19);
        Check.due("WATER", x.count(3), 3);
        Check.due("of(0, 1)", x.of(0, 1), 1);
        Check.due("of(1, 1)", x.of(1, 1), 0);
        Check.due("undo the turn", x.undo(), 19);
        Check.due("of(1, 1) high", x.of(1, 1), 1);
        Check.due("undo the run up", x.undo(), 0);
        Check.due("of(0, 1) as at first", x.of(0, 1), 1);
        Check.due("of(1, 1) as at first", x.of(1, 1), 0);
        Check.due("WATER 0", x.count(3), 0);
        Check.due("no more", x.undo(), -3);
        Check.due("status(1)", x.status(1), 2);
        eightAtMost();
    }

    private static void eightAtMost() {
        LockFlight x = Check.flight(5, Check.lock(0, 0, 3));
        for (int i = 0; i < 10; i++) {
            x.run(i % 2, 0, 1, 0);
            Check.due("undos", x.count(5), Math.min(8, i + 1));
        }
        // each run takes 6 minutes, as the lock always stands right
        for (int i = 9; i >= 2; i--) {
            Check.due("undo to run " + i, x.undo(), 6 * i);
            Check.due("water at run " + i, x.count(3), i);
            Check.due("stands at run " + i, x.of(0, 1), i % 2);
        }
        Check.due("the first two stay", x.undo(), -3);
        Check.due("TIME of two", x.count(2), 12);
    }

    private static void kinds() {
        int[][] weak = {{4, 6, 0}, {8, 8, 0}, {4, 6, 30}, {8, 9, 20}, {6, 9, 0}, {3, 6, 60}};
        int[][] strong = {{4, 6, 0}, {4, 8, 0}, {4, 6, 30}, {4, 8, 20}, {6, 9, 0}, {3, 6, 60}};
        LockFlight x = new LockFlight();
        for (int kind = 0; kind < 6; kind++) {
            x.lock(kind, kind % 2, kind + 10);
        }
        for (int strength = 0; strength <= 9; strength++) {
            x.strength(strength);
            int[][] want = strength < 5 ? weak : strong;
            for (int kind = 0; kind < 6; kind++) {
                Check.due("KIND", x.of(kind, 0), kind);
                Check.due("STANDS", x.of(kind, 1), kind % 2);
                Check.due("ROAD", x.of(kind, 2), kind + 10);
                for (int what = 0; what < 3; what++) {
                    Check.due("of(" + kind + ", " + (3 + what) + ")", x.of(kind, 3 + what), want[kind][what]);
                }
            }
        }
        Check.due("of(-1, 0)", x.of(-1, 0), -2);
        Check.due("of(6, 0)", x.of(6, 0), -2);
        Check.due("of(0, -1)", x.of(0, -1), -2);
        Check.due("of(0, 6)", x.of(0, 6), -2);
    }

    private static void takes() {
        LockFlight x = Check.flight(4, Check.lock(1, 1, 2), Check.lock(3, 0, 9));
        for (int[] r : WRONG_RUNS) {
            Check.due("wrong takes", x.takes(r[0], r[1], r[2], r[3], 0), -2);
        }
        Check.due("takes what -1", x.takes(0, 0, 1, 0, -1), -2);
        Check.due("takes what 2", x.takes(0, 0, 1, 0, 2), -2);
        long before = x.digest();
        Check.due("up", x.takes(0, 0, 1, 0, 0), 8 + 8 + 2 + 9);
        Check.due("up, water", x.takes(0, 0, 1, 0, 1), 3);
        Check.due("up, shut", x.takes(0, 0, 1, 1, 0), 8 + 10 + 2 + 11);
        Check.due("down", x.takes(1, 0, 1, 0, 0), 8 + 9 + 2 + 8);
        Check.due("down, water", x.takes(1, 0, 1, 0, 1), 3);
        Check.due("nothing is changed", x.digest(), before);
    }

    private static void at() {
        // roads 5 and 3 between plain locks that all stand wrong for a run up
        LockFlight x = Check.flight(5, Check.lock(0, 1, 5), Check.lock(0, 1, 3), Check.lock(0, 1, 20));
        int[][] wrong = {{0, 0, 1, 0, -1, 0}, {0, 0, 1, 0, 3, 0}, {0, 0, 1, 0, 0, -1}, {0, 0, 1, 0, 0, 5}};
        for (int[] r : wrong) {
            Check.due("wrong at", x.at(r[0], r[1], r[2], r[3], r[4], r[5]), -2);
        }
        for (int[] r : WRONG_RUNS) {
            Check.due("wrong at", x.at(r[0], r[1], r[2], r[3], 0, 0), -2);
        }
        int[][] alone = {{0, 4, 10, -1, 1}, {15, 19, 25, -1, 1}, {28, 32, 38, -1, 1}};
        expect(x, "alone", 0, 0, 1, alone);
        // k 1, on foot: off to place 1 in minute 4; off to place 2 as the boat comes to place 1
        int[][] onFootBy1 = {{0, 4, 10, 4, 1}, {15, 15, 21, 13, 1}, {24, 24, 30, 22, 1}};
        expect(x, "on foot, k 1", 0, 1, 1, onFootBy1);
        int[][] bicycleBy1 = {{0, 4, 10, 4, 1}, {15, 15, 21, 11, 1}, {24, 24, 30, 21, 1}};
        expect(x, "bicycle, k 1", 0, 2, 1, bicycleBy1);
        int[][] bicycleBy2 = {{0, 4, 10, 4, 1}, {15, 15, 21, 11, 1}, {24, 24, 30, 17, 1}};
        expect(x, "bicycle, k 2", 0, 2, 2, bicycleBy2);
        int[][] down = {{0, 0, 6, 0, 0}, {9, 9, 15, 3, 0}, {20, 20, 26, 14, 0}};
        expect(x, "down on foot, k 1", 1, 1, 1, down);
        boatWaitsForHim();
    }

    private static void boatWaitsForHim() {
        // a weak crew: a boat is through the guarded lock sooner than he is done with the stiff one
        LockFlight x = Check.flight(0, Check.lock(5, 0, 1), Check.lock(1, 1, 1), Check.lock(1, 1, 1));
        int[][] want = {{0, 0, 6, 0, 0}, {7, 9, 17, 9, 1}, {18, 18, 26, 18, 1}};
        expect(x, "boat waits", 0, 1, 1, want);
    }

    private static void expect(LockFlight x, String name, int down, int ahead, int k, int[][] want) {
        for (int place = 0; place < want.length; place++) {
            for (int what = 0; what < 5; what++) {
                Check.due(name + ": place " + place + ", what " + what,
                    x.at(down, ahead, k, 0, place, what), want[place][what]);
            }
        }
    }

    /** A rusty lock that was made ready more than 20 minutes ahead is made ready once more. */
    private static void leaksBack() {
        LockFlight x = Check.flight(5, Check.lock(0, 0, 20), Check.lock(3, 1, 1));
        // comes in 26, was done in 10 + 4 by bicycle
        Check.due("in time", x.at(0, 2, 9, 0, 1, 1), 26);
        x.flight(5);
        x.lock(4, 0, 20);
        x.lock(4, 0, 1);
        x.lock(3, 1, 1);
        // out of place 1 in 38, comes in 39; he is done in 10 + 1 + 4 by bicycle, 24 ahead
        Check.due("leaked: DONE", x.at(0, 2, 9, 0, 2, 3), 15);
        Check.due("leaked: COMES", x.at(0, 2, 9, 0, 2, 0), 39);
        Check.due("leaked: GOES IN", x.at(0, 2, 9, 0, 2, 1), 43);
        Check.due("leaked: GOES OUT", x.at(0, 2, 9, 0, 2, 2), 51);
        Check.due("leaked: made ready", x.at(0, 2, 9, 0, 2, 4), 2);
        Check.due("leaked: WATER", x.takes(0, 2, 9, 0, 1), 5);
        Check.due("k 1 holds him back", x.at(0, 2, 1, 0, 2, 1), 39);
        Check.due("run", x.run(0, 2, 9, 0), 51);
        Check.due("run: WATER", x.count(3), 5);
    }

    /** 20 minutes behind DONE is still ready, 21 are not. */
    private static void staysJustLongEnough() {
        for (int shut = 0; shut < 2; shut++) {
            LockFlight x = Check.flight(5, Check.lock(0, 0, 1), Check.lock(0, 0, 20), Check.lock(3, 1, 1));
            // he: 1 + 10 + 4 = 15; the boat: 6 + 1 + 6 + 20 = 33, or 37 if shut
            Check.due("comes", x.at(0, 2, 9, shut, 2, 0), 33 + 4 * shut);
            Check.due("goes in", x.at(0, 2, 9, shut, 2, 1), shut == 0 ? 33 : 41);
        }
        // 20 roads apart by bicycle and 10 of deep lock: exactly 20 and 21 behind
        LockFlight y = Check.flight(5, Check.lock(4, 0, 20), Check.lock(0, 0, 6), Check.lock(3, 1, 1));
        // he: 10 + 3 + 4 = 17; the boat: 9 + 20 + 6 + 6 = 41: 24
        Check.due("24 behind", y.at(0, 2, 9, 0, 2, 4), 2);
        LockFlight z = Check.flight(5, Check.lock(0, 0, 20), Check.lock(0, 0, 5), Check.lock(3, 1, 1));
        // he: 10 + 3 + 4 = 17; the boat: 6 + 20 + 6 + 5 = 37: 20
        Check.due("20 behind", z.at(0, 2, 9, 0, 2, 4), 1);
        Check.due("20 behind goes in", z.at(0, 2, 9, 0, 2, 1), 37);
        LockFlight v = Check.flight(5, Check.lock(0, 0, 20), Check.lock(0, 0, 6), Check.lock(3, 1, 1));
        // he: 10 + 3 + 4 = 17; the boat: 38: 21
        Check.due("21 behind", v.at(0, 2, 9, 0, 2, 4), 2);
        Check.due("21 behind goes in", v.at(0, 2, 9, 0, 2, 1), 42);
    }

    private static void standsRightNeverLeaks() {
        LockFlight x = Check.flight(5, Check.lock(4, 0, 20), Check.lock(4, 0, 1), Check.lock(3, 0, 1));
        Check.due("right: DONE", x.at(0, 2, 9, 0, 2, 3), 11);
        Check.due("right: GOES IN", x.at(0, 2, 9, 0, 2, 1), 39);
        Check.due("right: made ready", x.at(0, 2, 9, 0, 2, 4), 0);
    }
}
