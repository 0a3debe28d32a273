/** Promises 14 to 21: lead, worth, strong, hire, dark, waits, share, key. */
public final class BestTest {
    public static void main(String[] args) {
        lead();
        worth();
        strong();
        hire();
        dark();
        waits();
        share();
        key();
        Check.end();
    }

    private static final int[][] WRONG_RUNS = {
        {-1, 0, 1}, {2, 0, 1}, {0, -1, 1}, {0, 3, 1}, {0, 0, 0}, {0, 0, 10}};

    /** Too far ahead, the rusty lock leaks back; with a lead of 1 it does not. */
    private static LockFlight leaky() {
        return Check.flight(5, Check.lock(4, 0, 20), Check.lock(4, 0, 1), Check.lock(3, 1, 1));
    }

    private static void lead() {
        LockFlight x = leaky();
        int[][] wrong = {{-1, 1, 0}, {2, 1, 0}, {0, 0, 0}, {0, 3, 0}, {0, 1, -1}, {0, 1, 2}};
        for (int[] r : wrong) {
            Check.due("wrong lead", x.lead(r[0], r[1], r[2]), -2);
        }
        Check.due("status(0)", x.status(0), wrong.length);
        // k 1: off to place 2 in 29, done in 34, in by 39; k 2 and more: leaked, in by 43
        Check.due("lead(0, 2, 0)", x.lead(0, 2, 0), 1);
        LockFlight y = Check.flight(0, Check.lock(0, 0, 1), Check.lock(0, 0, 1), Check.lock(1, 1, 1));
        // k 1: off to place 2 in 7, done in 16, the boat comes in 14; k 2: off in 1, done in 10
        Check.due("k 1", y.takes(0, 1, 1, 0, 0), 24);
        Check.due("k 2", y.takes(0, 1, 2, 0, 0), 22);
        Check.due("lead(0, 1, 0)", y.lead(0, 1, 0), 2);
        // shut: the boat comes to place 1 in 9, to place 2 in 18; he is done in 18 by k 1
        Check.due("lead(0, 1, 1)", y.lead(0, 1, 1), 1);
        Check.due("lead down", y.lead(1, 1, 0), 1);
        Check.due("no locks", new LockFlight().lead(1, 2, 1), 1);
    }

    private static void worth() {
        LockFlight x = Check.flight(0, Check.lock(0, 0, 2), Check.lock(1, 1, 1), Check.lock(0, 0, 1));
        Check.due("worth(-1, 0)", x.worth(-1, 0), -1000);
        Check.due("worth(2, 0)", x.worth(2, 0), -1000);
        Check.due("worth(0, -1)", x.worth(0, -1), -1000);
        Check.due("worth(0, 2)", x.worth(0, 2), -1000);
        Check.due("status(0)", x.status(0), 4);
        // place 1: the boat comes in 8; he is done in 2 + 8 on foot, in 1 + 8 by bicycle
        Check.due("worth(0, 0)", x.worth(0, 0), 1);
        Check.due("worth(0, 1)", x.worth(0, 1), 0);
        // on foot he may come just in time not to leak back: the bicycle costs 4 minutes
        LockFlight y = Check.flight(5, Check.lock(4, 0, 20), Check.lock(3, 1, 1));
        // boat comes in 29; on foot done in 24; by bicycle done in 14
        Check.due("both in time", y.worth(0, 0), 0);
        Check.due("no locks", new LockFlight().worth(1, 1), 0);
        Check.due("worth down", x.worth(1, 0), 0);
    }

    private static void strong() {
        LockFlight x = Check.flight(9, Check.lock(1, 1, 3), Check.lock(0, 0, 1));
        int[][] wrong = {{-1, 0, 1, 0}, {2, 0, 1, 0}, {0, -1, 1, 0}, {0, 3, 1, 0},
            {0, 0, 0, 0}, {0, 0, 10, 0}, {0, 0, 1, -1}, {0, 0, 1, 2}};
        for (int[] r : wrong) {
            Check.due("wrong strong", x.strong(r[0], r[1], r[2], r[3]), -2);
        }
        Check.due("up: a stiff lock is to be made ready", x.strong(0, 0, 1, 0), 5);
        // down the plain lock stands wrong, the stiff one right
        Check.due("down: strength is worth nothing", x.strong(1, 0, 1, 0), 0);
        Check.due("strength stays", x.count(1), 9);
        Check.due("no locks", new LockFlight().strong(0, 0, 1, 0), 0);
        LockFlight y = Check.flight(9, Check.lock(3, 0, 1));
        Check.due("rusty is passed sooner", y.strong(0, 0, 1, 1), 5);
        weakIsBetter();
    }

    /** The weak are done later with the rusty lock, so that it has not leaked back as the boat comes. */
    private static void weakIsBetter() {
        LockFlight x = Check.flight(5, Check.lock(0, 0, 20), Check.lock(0, 0, 6), Check.lock(3, 1, 1));
        // strong: done 17, comes 38, leaked, 42 + 8; weak: done 21, comes 38, 38 + 9
        Check.due("strong by 5", x.takes(0, 2, 9, 0, 0), 50);
        x.strength(4);
        Check.due("weak by 4", x.takes(0, 2, 9, 0, 0), 47);
        Check.due("OF STRENGTH", x.strong(0, 2, 9, 0), 0);
    }

    private static void hire() {
        LockFlight x = Check.flight(4, Check.lock(0, 1, 2), Check.lock(1, 1, 2), Check.lock(0, 0, 2),
            Check.lock(4, 1, 2), Check.lock(3, 1, 2));
        for (int[] r : WRONG_RUNS) {
            Check.due("wrong hire", x.hire(r[0], r[1], r[2], 1, 0), -2);
        }
        Check.due("hire n -1", x.hire(0, 0, 1, -1, 0), -2);
        Check.due("hire n 4", x.hire(0, 0, 1, 4, 0), -2);
        Check.due("hire what -1", x.hire(0, 0, 1, 1, -1), -2);
        Check.due("hire what 2", x.hire(0, 0, 1, 1, 2), -2);
        // to be made ready: 4, 8, -, 6, 8; passed 6, 8, 6, 9, 9 and 8 on the way
        int all = 26 + 38 + 8;
        Check.due("nobody hired", x.hire(0, 0, 1, 0, 0), 0);
        Check.due("nobody hired, minutes", x.hire(0, 0, 1, 0, 1), all);
        Check.due("one: of like ones the least bits", x.hire(0, 0, 1, 1, 0), 2);
        Check.due("one, minutes", x.hire(0, 0, 1, 1, 1), all - 8);
        Check.due("two", x.hire(0, 0, 1, 2, 0), 2 + 16);
        Check.due("two, minutes", x.hire(0, 0, 1, 2, 1), all - 16);
        Check.due("three", x.hire(0, 0, 1, 3, 0), 2 + 8 + 16);
        Check.due("three, minutes", x.hire(0, 0, 1, 3, 1), all - 22);
        Check.due("down: only one stands wrong", x.hire(1, 0, 1, 3, 0), 4);
        Check.due("down, minutes", x.hire(1, 0, 1, 3, 1), 38 + 8);
        Check.due("nothing is changed", x.of(1, 1), 1);
        LockFlight y = Check.flight(5, Check.lock(0, 0, 3), Check.lock(0, 0, 3));
        Check.due("fewer locks of like ones", y.hire(0, 1, 9, 3, 0), 0);
        // only the leaking back at place 2 costs time, and one hired man mends it
        LockFlight z = leaky();
        Check.due("hired locks stay right", z.hire(0, 2, 9, 1, 0), 4);
        Check.due("hired locks stay right, minutes", z.hire(0, 2, 9, 1, 1), 47);
        Check.due("no locks", new LockFlight().hire(1, 1, 1, 3, 0), 0);
    }

    private static void dark() {
        LockFlight x = Check.flight(5, Check.lock(0, 1, 3), Check.lock(0, 0, 3));
        for (int[] r : WRONG_RUNS) {
            Check.due("wrong dark", x.dark(r[0], r[1], r[2], 1), -2);
        }
        Check.due("dark m -1", x.dark(0, 0, 1, -1), -2);
        Check.due("dark m 1000", x.dark(0, 0, 1, 1000), -2);
        // out of them in 10 and 19
        int[][] want = {{0, 0}, {9, 0}, {10, 1}, {18, 1}, {19, 2}, {999, 2}};
        for (int[] w : want) {
            Check.due("dark in " + w[0], x.dark(0, 0, 1, w[0]), w[1]);
        }
        // down: 4 + 6, 3, 6
        Check.due("dark down in 9", x.dark(1, 0, 1, 9), 0);
        Check.due("dark down in 10", x.dark(1, 0, 1, 10), 1);
        Check.due("no locks", new LockFlight().dark(0, 0, 1, 999), 0);
    }

    private static void waits() {
        LockFlight x = Check.flight(4, Check.lock(0, 1, 2), Check.lock(1, 1, 2), Check.lock(0, 1, 2));
        for (int[] r : WRONG_RUNS) {
            Check.due("wrong waits", x.waits(r[0], r[1], r[2], 0, 1), -2);
        }
        Check.due("waits place -1", x.waits(0, 0, 1, -1, 1), -2);
        Check.due("waits place 3", x.waits(0, 0, 1, 3, 1), -2);
        Check.due("waits w -1", x.waits(0, 0, 1, 0, -1), -2);
        Check.due("waits w 61", x.waits(0, 0, 1, 0, 61), -2);
        // what standing right is worth from places 0, 1, 2 on: 16, 12, 4
        int[] worth = {16, 12, 4};
        for (int place = 0; place < 3; place++) {
            Check.due("sooner", x.waits(0, 0, 1, place, worth[place] - 1), 1);
            Check.due("as soon", x.waits(0, 0, 1, place, worth[place]), 0);
            Check.due("later", x.waits(0, 0, 1, place, worth[place] + 1), -1);
        }
        Check.due("waits w 60", x.waits(0, 0, 1, 0, 60), -1);
        Check.due("down all stand right", x.waits(1, 0, 1, 0, 0), 0);
        // down, place 2 is lock 0
        x.turn(0);
        Check.due("down, lock 0", x.waits(1, 0, 1, 2, 3), 1);
        Check.due("down, lock 0, as soon", x.waits(1, 0, 1, 2, 4), 0);
        Check.due("no locks, no places", new LockFlight().waits(0, 0, 1, 0, 0), -2);
    }

    private static void share() {
        LockFlight x = Check.flight(5, Check.lock(0, 1, 3), Check.lock(0, 0, 3));
        for (int[] r : WRONG_RUNS) {
            Check.due("wrong share", x.share(r[0], r[1], r[2], 1), -1000);
        }
        Check.due("share x -1", x.share(0, 0, 1, -1), -1000);
        Check.due("share x 61", x.share(0, 0, 1, 61), -1000);
        Check.due("status(0)", x.status(0), WRONG_RUNS.length + 2);
        // first 19; second behind it 10 + 3 + 10 = 23; shared 10 + 3 + 3 + 6 + 3 = 25
        Check.due("share x 0", x.share(0, 0, 1, 0), 19 + 23 - 25);
        Check.due("share x 17", x.share(0, 0, 1, 17), 19 + 23 - 42);
        Check.due("share x 18", x.share(0, 0, 1, 18), -1);
        Check.due("share x 19", x.share(0, 0, 1, 19), -2);
        Check.due("share x 60", x.share(0, 0, 1, 60), 60 + 23 - 85);
        // down: first 10 + 3 + 6, second 10 + 3 + 10, shared 13 + 3 + 9
        Check.due("share down", x.share(1, 0, 1, 0), 19 + 23 - 25);
        Check.due("no locks", new LockFlight().share(0, 0, 1, 60), 0);
        Check.due("nothing is changed", x.of(1, 1), 0);
    }

    private static void key() {
        LockFlight x = Check.flight(5, Check.lock(0, 0, 5), Check.lock(0, 0, 4), Check.lock(0, 0, 1));
        int[][] wrong = {{-1, 0, 0}, {2, 0, 0}, {0, -1, 0}, {0, 0, 3}, {0, 3, 3}, {0, 1, 0}, {0, 0, -1}};
        for (int[] r : wrong) {
            Check.due("wrong key", x.key(r[0], r[1], r[2]), -2);
        }
        Check.due("key(0, 0, 0)", x.key(0, 0, 0), 0);
        Check.due("key(0, 0, 1)", x.key(0, 0, 1), 6);
        Check.due("key(0, 1, 2)", x.key(0, 1, 2), 4);
        Check.due("key(0, 0, 2)", x.key(0, 0, 2), 10);
        Check.due("key(1, 0, 1)", x.key(1, 0, 1), 4);
        Check.due("key(1, 1, 2)", x.key(1, 1, 2), 6);
        Check.due("key(1, 0, 2)", x.key(1, 0, 2), 10);
        Check.due("no locks", new LockFlight().key(0, 0, 0), -2);
    }
}
