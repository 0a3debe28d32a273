/** Runs: each sentence that names a bound, from both sides of it, up and down. */
public final class RunBoundsTest {
    private static final int COMES = 0, GOES_IN = 1, GOES_OUT = 2, DONE = 3;
    private static final int FOOT = 1, BICYCLE = 2;
    private static final int PLAIN = 0, STIFF = 1, LEAKING = 2, RUSTY = 3, DEEP = 4, GUARDED = 5;

    public static void main(String[] args) {
        noLocks();
        for (int down = 0; down < 2; down++) {
            oneLock(down);
            strengthBelowFive(down);
            halfOfTheRoadCutUp(down);
            roadOfTheLesserLock(down);
            lastRoadIsNothing(down);
            shutBehindEachLock(down);
            leadHoldsHim(down);
            leadBeyondThePlaces(down);
            staysReadyJustLongEnough(down);
            staysReadyForEver(down);
            standingRightNeverLeaks(down);
            doneAheadWithBehindComing(down);
            nobodyAhead(down);
            runTurnsAll(down);
            longestRun(down);
        }
        kindsAtFirst();
        Check.end();
    }

    private static void row(LockFlight x, String told, int[] run, int place, int... want) {
        for (int what = 0; what < want.length; what++) {
            Check.due(told + ": place " + place + ", what " + what,
                x.at(run[0], run[1], run[2], run[3], place, what), want[what]);
        }
    }

    private static void noLocks() {
        LockFlight x = new LockFlight();
        for (int down = 0; down < 2; down++) {
            for (int ahead = 0; ahead < 3; ahead++) {
                for (int shut = 0; shut < 2; shut++) {
                    Check.due("takes, MINUTES", x.takes(down, ahead, 9, shut, 0), 0);
                    Check.due("takes, WATER", x.takes(down, ahead, 1, shut, 1), 0);
                    Check.due("run", x.run(down, ahead, 5, shut), 0);
                    Check.due("at", x.at(down, ahead, 1, shut, 0, 0), -2);
                }
            }
        }
        Check.due("TIME", x.count(2), 0);
        Check.due("WATER", x.count(3), 0);
        Check.due("runs without locks may be undone", x.count(5), 8);
    }

    private static void oneLock(int down) {
        LockFlight right = Way.flight(down, 5, Way.place(PLAIN, Way.RIGHT, 1));
        LockFlight wrong = Way.flight(down, 5, Way.place(PLAIN, Way.WRONG, 1));
        for (int ahead = 0; ahead < 3; ahead++) {
            int[] run = {down, ahead, 1, 0};
            row(right, "right", run, 0, 0, 0, 6, ahead == 0 ? -1 : 0, 0);
            row(wrong, "wrong", run, 0, 0, 4, 10, ahead == 0 ? -1 : 4, 1);
            Check.due("right, WATER", right.takes(down, ahead, 1, 0, 1), 1);
            Check.due("wrong, WATER", wrong.takes(down, ahead, 1, 0, 1), 2);
        }
    }

    private static void strengthBelowFive(int down) {
        // made ready, passed by KIND, below 5 and from 5 on
        int[][] weak = {{4, 6}, {8, 8}, {4, 6}, {8, 9}, {6, 9}, {3, 6}};
        int[][] strong = {{4, 6}, {4, 8}, {4, 6}, {4, 8}, {6, 9}, {3, 6}};
        for (int strength : new int[] {0, 4, 5, 9}) {
            for (int kind = PLAIN; kind <= GUARDED; kind++) {
                int[] want = (strength < 5 ? weak : strong)[kind];
                LockFlight x = Way.flight(down, strength, Way.place(kind, Way.WRONG, 1));
                row(x, "STRENGTH " + strength + ", KIND " + kind, new int[] {down, 0, 1, 0}, 0,
                    0, want[0], want[0] + want[1], -1, 1);
                Check.due("MINUTES", x.takes(down, FOOT, 1, 0, 0), want[0] + want[1]);
            }
        }
    }

    private static void halfOfTheRoadCutUp(int down) {
        int[] half = {1, 1, 2, 2, 3, 3, 4, 4, 5, 5, 6, 6, 7, 7, 8, 8, 9, 9, 10, 10};
        for (int road = 1; road <= 20; road++) {
            LockFlight x = Way.flight(down, 5, Way.places(2, PLAIN, Way.RIGHT, road));
            Check.due("on foot, ROAD " + road, x.at(down, FOOT, 9, 0, 1, DONE), road);
            Check.due("on a bicycle, ROAD " + road, x.at(down, BICYCLE, 9, 0, 1, DONE), half[road - 1]);
            Check.due("the boat, ROAD " + road, x.at(down, BICYCLE, 9, 0, 1, COMES), 6 + road);
            Check.due("the key, ROAD " + road, x.key(down, 0, 1), 2 * half[road - 1]);
        }
        // each road is cut up by itself: 1 + 1 + 1, not half of 3
        LockFlight x = Way.flight(down, 5, Way.places(4, PLAIN, Way.RIGHT, 1));
        Check.due("three roads of 1", x.at(down, BICYCLE, 9, 0, 3, DONE), 3);
        Check.due("the key over them", x.key(down, 0, 3), 6);
    }

    private static void roadOfTheLesserLock(int down) {
        LockFlight x = Check.flight(5, Check.lock(0, down, 3), Check.lock(0, down, 11), Check.lock(0, down, 20));
        int first = down == 0 ? 3 : 11;
        int second = down == 0 ? 11 : 3;
        Check.due("place 1", x.at(down, 0, 1, 0, 1, COMES), 6 + first);
        Check.due("place 2", x.at(down, 0, 1, 0, 2, COMES), 6 + first + 6 + second);
        Check.due("on foot, place 2", x.at(down, FOOT, 9, 0, 2, DONE), 14);
    }

    private static void lastRoadIsNothing(int down) {
        LockFlight near = Check.flight(5, Check.lock(2, 1, 7), Check.lock(3, 0, 1));
        LockFlight far = Check.flight(5, Check.lock(2, 1, 7), Check.lock(3, 0, 20));
        for (int ahead = 0; ahead < 3; ahead++) {
            Check.due("MINUTES", near.takes(down, ahead, 1, 0, 0), far.takes(down, ahead, 1, 0, 0));
            Check.due("SHARE", near.share(down, ahead, 1, 9), far.share(down, ahead, 1, 9));
        }
        Check.due("KEY", near.key(down, 0, 1), far.key(down, 0, 1));
        Check.due("but it is told", far.of(1, 2), 20);
    }

    private static void shutBehindEachLock(int down) {
        for (int n = 1; n <= 8; n++) {
            LockFlight x = Way.flight(down, 5, Way.places(n, PLAIN, Way.RIGHT, 2));
            int open = 6 * n + 2 * (n - 1);
            Check.due("open, " + n, x.takes(down, 0, 1, 0, 0), open);
            Check.due("shut, " + n, x.takes(down, 0, 1, 1, 0), open + 2 * n);
            Check.due("shut: WATER, " + n, x.takes(down, 0, 1, 1, 1), n);
            Check.due("shut: GOES OUT", x.at(down, 0, 1, 1, n - 1, GOES_OUT), open + 2 * n);
            Check.due("shut: GOES IN", x.at(down, 0, 1, 1, n - 1, GOES_IN), open + 2 * n - 8);
        }
    }

    /** The boat comes to place j in minute 16 j; he walks 10 minutes to each. */
    private static void leadHoldsHim(int down) {
        LockFlight x = Way.flight(down, 5, Way.places(8, PLAIN, Way.RIGHT, 10));
        int[][] done = {
            {0, 10, 26, 42, 58, 74, 90, 106},
            {0, 10, 20, 30, 42, 58, 74, 90},
            {0, 10, 20, 30, 40, 50, 60, 74},
            {0, 10, 20, 30, 40, 50, 60, 70}};
        for (int k = 1; k <= 9; k++) {
            for (int place = 0; place < 8; place++) {
                Check.due("k " + k + ", COMES " + place, x.at(down, FOOT, k, 0, place, COMES), 16 * place);
                int want = done[Math.min(k, 4) - 1][place];
                Check.due("k " + k + ", DONE " + place, x.at(down, FOOT, k, 0, place, DONE), want);
            }
        }
    }

    /** Place 0 is come to in minute 0, so a lead of 7 holds nobody; of 6 he waits for the boat at place 1. */
    private static void leadBeyondThePlaces(int down) {
        int[][] places = Way.places(8, PLAIN, Way.RIGHT, 1);
        places[0] = Way.place(DEEP, Way.RIGHT, 20);
        LockFlight x = Way.flight(down, 5, places);
        // by bicycle: 10 + 6 to the last place; the boat comes to place 1 in 29
        Check.due("k 6, last DONE", x.at(down, BICYCLE, 6, 0, 7, DONE), 30);
        for (int k = 7; k <= 9; k++) {
            Check.due("k " + k + ", last DONE", x.at(down, BICYCLE, k, 0, 7, DONE), 16);
        }
        Check.due("place 6 by k 5", x.at(down, BICYCLE, 5, 0, 6, DONE), 30);
        Check.due("place 6 by k 6", x.at(down, BICYCLE, 6, 0, 6, DONE), 15);
        Check.due("place 1 by k 1", x.at(down, BICYCLE, 1, 0, 1, DONE), 10);
        Check.due("place 2 by k 1", x.at(down, BICYCLE, 1, 0, 2, DONE), 30);
    }

    /** Roads by which the boat comes just as long behind DONE as it stays READY, and one MINUTE longer. */
    private static void staysReadyJustLongEnough(int down) {
        justLongEnough(down, LEAKING, 5, 30, new int[] {20, 12, 1}, new int[] {20, 14, 1});
        justLongEnough(down, LEAKING, 4, 30, new int[] {20, 12, 1}, new int[] {20, 14, 1});
        justLongEnough(down, RUSTY, 5, 20, new int[] {20, 4}, new int[] {20, 6});
        justLongEnough(down, RUSTY, 4, 20, new int[] {20, 12}, new int[] {20, 14});
        justLongEnough(down, GUARDED, 5, 60, new int[] {20, 20, 20, 18}, new int[] {20, 20, 20, 20});
        justLongEnough(down, GUARDED, 0, 60, new int[] {20, 20, 20, 18}, new int[] {20, 20, 20, 20});
    }

    private static void justLongEnough(int down, int kind, int strength, int stays, int[] near, int[] far) {
        String told = "KIND " + kind + ", STRENGTH " + strength;
        int last = near.length;
        int lock = down == 0 ? last : 0;
        LockFlight ready = overRoads(down, kind, strength, Way.WRONG, near);
        int again = ready.of(lock, 3);
        int passed = ready.of(lock, 4);
        int[] run = {down, BICYCLE, 9, 0};
        int comes = ready.at(down, BICYCLE, 9, 0, last, COMES);
        row(ready, told + " is READY", run, last, comes, comes, comes + passed, comes - stays, 1);
        Check.due(told + " is READY, WATER", ready.takes(down, BICYCLE, 9, 0, 1), last + 2);
        LockFlight leaked = overRoads(down, kind, strength, Way.WRONG, far);
        comes = leaked.at(down, BICYCLE, 9, 0, last, COMES);
        row(leaked, told + " leaked", run, last, comes, comes + again, comes + again + passed, comes - stays - 1, 2);
        Check.due(told + " leaked, WATER", leaked.takes(down, BICYCLE, 9, 0, 1), last + 3);
        Check.due(told + " leaked, run", leaked.run(down, BICYCLE, 9, 0), comes + again + passed);
        Check.due(told + " leaked, WATER of the run", leaked.count(3), last + 3);
    }

    /** PLAIN locks that stand right, and behind them one of a KIND. */
    private static LockFlight overRoads(int down, int kind, int strength, int right, int[] roads) {
        int[][] places = new int[roads.length + 1][];
        for (int p = 0; p < roads.length; p++) {
            places[p] = Way.place(PLAIN, Way.RIGHT, roads[p]);
        }
        places[roads.length] = Way.place(kind, right, 1);
        return Way.flight(down, strength, places);
    }

    private static void staysReadyForEver(int down) {
        for (int kind : new int[] {PLAIN, STIFF, DEEP}) {
            LockFlight x = overRoads(down, kind, 5, Way.WRONG, new int[] {20, 20, 20, 20, 20, 20, 20});
            int ready = kind == DEEP ? 6 : 4;
            int passed = kind == PLAIN ? 6 : kind == STIFF ? 8 : 9;
            // the boat: 7 times 26; he: 7 times 10
            row(x, "KIND " + kind, new int[] {down, BICYCLE, 9, 0}, 7, 182, 182, 182 + passed, 70 + ready, 1);
        }
    }

    private static void standingRightNeverLeaks(int down) {
        for (int kind : new int[] {LEAKING, RUSTY, GUARDED}) {
            LockFlight x = overRoads(down, kind, 5, Way.RIGHT, new int[] {20, 20, 20, 20, 20, 20, 20});
            row(x, "KIND " + kind, new int[] {down, BICYCLE, 9, 0}, 7, 182, 182, kind == RUSTY ? 190 : 188, 70, 0);
        }
    }

    /** GUARDED is passed in 6; on the road of 1 he makes STIFF ready in 8, DEEP in 6, PLAIN in 4. */
    private static void doneAheadWithBehindComing(int down) {
        int[] run = {down, FOOT, 1, 0};
        LockFlight behind = Way.flight(down, 4, Way.place(GUARDED, Way.RIGHT, 1), Way.place(STIFF, Way.WRONG, 1));
        row(behind, "DONE behind COMING", run, 1, 7, 9, 17, 9, 1);
        LockFlight with = Way.flight(down, 4, Way.place(GUARDED, Way.RIGHT, 1), Way.place(DEEP, Way.WRONG, 1));
        row(with, "DONE with COMING", run, 1, 7, 7, 16, 7, 1);
        LockFlight ahead = Way.flight(down, 4, Way.place(GUARDED, Way.RIGHT, 1), Way.place(PLAIN, Way.WRONG, 1));
        row(ahead, "DONE ahead of COMING", run, 1, 7, 7, 13, 5, 1);
        // the boat waits for one that leaks, too: he is DONE behind its coming
        LockFlight rusty = Way.flight(down, 4, Way.place(GUARDED, Way.RIGHT, 1), Way.place(RUSTY, Way.WRONG, 1));
        row(rusty, "DONE behind COMING, RUSTY", run, 1, 7, 9, 18, 9, 1);
    }

    private static void nobodyAhead(int down) {
        LockFlight x = Way.flight(down, 4, Way.place(RUSTY, Way.WRONG, 20), Way.place(LEAKING, Way.RIGHT, 20),
            Way.place(GUARDED, Way.WRONG, 1));
        for (int k = 1; k <= 9; k++) {
            int[] run = {down, 0, k, 0};
            row(x, "nobody, k " + k, run, 0, 0, 8, 17, -1, 1);
            row(x, "nobody, k " + k, run, 1, 37, 37, 43, -1, 0);
            row(x, "nobody, k " + k, run, 2, 63, 66, 72, -1, 1);
        }
        Check.due("NONE is counted nowhere", x.status(0) + x.status(1) + x.status(2), 0);
    }

    private static void runTurnsAll(int down) {
        LockFlight x = Way.flight(down, 5, Way.place(PLAIN, Way.WRONG, 1), Way.place(PLAIN, Way.RIGHT, 1),
            Way.place(PLAIN, Way.WRONG, 1));
        // 3 passed, and two that are made ready while the boat waits: 4 + 6, 1 + 6, 1 + 4 + 6
        Check.due("run", x.run(down, 0, 1, 0), 28);
        Check.due("TIME", x.count(2), 28);
        Check.due("WATER", x.count(3), 5);
        for (int lock = 0; lock < 3; lock++) {
            Check.due("STANDS", x.of(lock, 1), 1 - down);
        }
        Check.due("all stand wrong for the next", x.run(down, 0, 1, 0), 32);
        Check.due("all stand right for one that comes back", x.run(1 - down, 0, 1, 0), 20);
        Check.due("TIME of all", x.count(2), 80);
        Check.due("WATER of all", x.count(3), 5 + 6 + 3);
        Check.due("STRENGTH stays", x.count(1), 5);
    }

    /** 8 times 8 + 9 + 2 and 7 roads of 20. */
    private static void longestRun(int down) {
        LockFlight x = Way.flight(down, 0, Way.places(8, RUSTY, Way.WRONG, 20));
        Check.due("longest", x.run(down, 0, 1, 1), 292);
        Check.due("WATER", x.count(3), 16);
        // 300 runs more: TIME and WATER go on
        for (int i = 0; i < 300; i++) {
            x.run(down, 0, 1, 1);
        }
        Check.due("TIME", x.count(2), 301 * 292);
        Check.due("WATER of all", x.count(3), 301 * 16);
        Check.due("8 may be undone", x.count(5), 8);
        Check.due("undo", x.undo(), 300 * 292);
    }

    private static void kindsAtFirst() {
        LockFlight x = new LockFlight();
        int[][] want = {{4, 6, 0}, {4, 8, 0}, {4, 6, 30}, {4, 8, 20}, {6, 9, 0}, {3, 6, 60}};
        for (int kind = PLAIN; kind <= GUARDED; kind++) {
            Check.due("lock", x.lock(kind, 1, 20), kind);
            for (int what = 0; what < 3; what++) {
                Check.due("of(" + kind + ", " + (3 + what) + ") at first", x.of(kind, 3 + what), want[kind][what]);
            }
        }
        x.strength(4);
        Check.due("STIFF, READY", x.of(STIFF, 3), 8);
        Check.due("RUSTY, READY", x.of(RUSTY, 3), 8);
        Check.due("RUSTY, passed", x.of(RUSTY, 4), 9);
        Check.due("STIFF, passed", x.of(STIFF, 4), 8);
        x.strength(5);
        Check.due("STIFF, READY again", x.of(STIFF, 3), 4);
        Check.due("RUSTY, passed again", x.of(RUSTY, 4), 8);
    }
}
