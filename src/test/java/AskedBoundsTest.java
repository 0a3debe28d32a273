/** What is best, seen, drawn: each sentence that names a bound, from both sides of it. */
public final class AskedBoundsTest {
    private static final int FOOT = 1, BICYCLE = 2;
    private static final int PLAIN = 0, STIFF = 1, LEAKING = 2, RUSTY = 3, DEEP = 4, GUARDED = 5;

    public static void main(String[] args) {
        noLocks();
        for (int down = 0; down < 2; down++) {
            leadIsTheLeast(down);
            worthOnEachSideOfZero(down);
            strengthIsTheLeast(down);
            hireSoManyAtMost(down);
            hireOfLikeOnes(down);
            hiredLocksStayRight(down);
            darkInTheMinute(down);
            waitsFromEachPlace(down);
            waitsAnHour(down);
            shareAtOnceAndLate(down);
            keyFromPlaceToPlace(down);
            leadsThatFit(down);
            leadsAtTheEnds(down);
            notShutWhereItIsNotTold(down);
        }
        hireTellsLocksByNumber();
        readingsUpToSix();
        drawnFromTheLeastSeed();
        drawnGoesOnFromRunToRun();
        drawnForEachLock();
        drawnInLowestTerms();
        Check.end();
    }

    private static void noLocks() {
        LockFlight x = new LockFlight();
        for (int down = 0; down < 2; down++) {
            Check.due("lead", x.lead(down, FOOT, 0), 1);
            Check.due("lead, shut", x.lead(down, BICYCLE, 1), 1);
            Check.due("worth", x.worth(down, 1), 0);
            Check.due("strong", x.strong(down, 0, 1, 1), 0);
            Check.due("hire", x.hire(down, 2, 9, 3, 0), 0);
            Check.due("hire, MINUTES", x.hire(down, 2, 9, 3, 1), 0);
            Check.due("dark, 0", x.dark(down, 0, 1, 0), 0);
            Check.due("dark, 999", x.dark(down, 0, 1, 999), 0);
            Check.due("share, 0", x.share(down, 1, 1, 0), 0);
            Check.due("share, 60", x.share(down, 1, 1, 60), 0);
            Check.due("leads", x.leads(down, FOOT, 1), 1022);
        }
        Check.due("nothing was refused", x.status(0), 0);
        Check.due("drawn", x.drawn(999999, 30, 2, 9), 1);
        Check.due("waits: no such place", x.waits(0, 0, 1, 0, 0), -2);
        Check.due("key: no such place", x.key(0, 0, 0), -2);
        Check.due("reading: no such place", x.reading(0, 0), -2);
        Check.due("turn: no such lock", x.turn(0), -2);
        Check.due("of: no such lock", x.of(0, 0), -2);
        Check.due("at: no such place", x.at(0, 0, 1, 0, 0, 0), -2);
        Check.due("six were refused", x.status(0), 6);
    }

    private static void leadIsTheLeast(int down) {
        // all leads alike
        LockFlight like = Way.flight(down, 5, Way.places(8, PLAIN, Way.RIGHT, 10));
        Check.due("all alike", like.lead(down, FOOT, 0), 1);
        // k 1: off to place 2 in 7, DONE in 16, the boat comes in 14; k 2 to 9 alike
        LockFlight two = Way.flight(down, 4, Way.place(PLAIN, Way.RIGHT, 1), Way.place(PLAIN, Way.RIGHT, 1),
            Way.place(STIFF, Way.WRONG, 1));
        Check.due("k 1", two.takes(down, FOOT, 1, 0, 0), 24);
        Check.due("k 2", two.takes(down, FOOT, 2, 0, 0), 22);
        Check.due("k 9", two.takes(down, FOOT, 9, 0, 0), 22);
        Check.due("2 to 9 alike", two.lead(down, FOOT, 0), 2);
        Check.due("shut: the boat comes as he is DONE", two.lead(down, FOOT, 1), 1);
        // too far ahead it leaks back: k 1 is DONE in 34, k 2 in 15, the boat comes in 39
        LockFlight leaks = Way.flight(down, 5, Way.place(DEEP, Way.RIGHT, 20), Way.place(DEEP, Way.RIGHT, 1),
            Way.place(RUSTY, Way.WRONG, 1));
        Check.due("k 1 in time", leaks.takes(down, BICYCLE, 1, 0, 0), 47);
        Check.due("k 2 leaked", leaks.takes(down, BICYCLE, 2, 0, 0), 51);
        Check.due("1 alone is best", leaks.lead(down, BICYCLE, 0), 1);
    }

    private static void worthOnEachSideOfZero(int down) {
        // on foot k 2: 63; by bicycle k 1: 65, k 2: leaked, 71
        LockFlight below = Way.flight(down, 4, Way.place(RUSTY, Way.WRONG, 1), Way.place(DEEP, Way.RIGHT, 20),
            Way.place(PLAIN, Way.RIGHT, 1), Way.place(RUSTY, Way.WRONG, 1));
        Check.due("worth below 0", below.worth(down, 0), -2);
        LockFlight none = Way.flight(down, 4, Way.place(PLAIN, Way.RIGHT, 20));
        Check.due("one lock", none.worth(down, 0), 0);
        // on foot DONE in 2 + 8, by bicycle in 1 + 8, the boat comes in 8
        LockFlight above = Way.flight(down, 4, Way.place(PLAIN, Way.RIGHT, 2), Way.place(STIFF, Way.WRONG, 1));
        Check.due("worth above 0", above.worth(down, 0), 1);
        Check.due("shut: the boat comes in 10", above.worth(down, 1), 0);
    }

    private static void strengthIsTheLeast(int down) {
        LockFlight stiff = Way.flight(down, 0, Way.place(STIFF, Way.WRONG, 1));
        Check.due("5 to 9 alike", stiff.strong(down, 0, 1, 0), 5);
        LockFlight plain = Way.flight(down, 9, Way.place(STIFF, Way.RIGHT, 1));
        Check.due("0 to 9 alike", plain.strong(down, 0, 1, 0), 0);
        Check.due("STRENGTH stays 0", stiff.count(1), 0);
        Check.due("STRENGTH stays 9", plain.count(1), 9);
        // 5: DONE in 17, leaked, 50; 4: DONE in 21, the boat comes in 38, 47
        LockFlight weak = Way.flight(down, 7, Way.place(PLAIN, Way.RIGHT, 20), Way.place(PLAIN, Way.RIGHT, 6),
            Way.place(RUSTY, Way.WRONG, 1));
        Check.due("the weak are better", weak.strong(down, BICYCLE, 9, 0), 0);
        Check.due("held by his lead they are not", weak.strong(down, BICYCLE, 1, 0), 5);
        // shut: the boat comes in 42, 21 behind DONE of the weak
        Check.due("shut: leaked for all", weak.strong(down, BICYCLE, 9, 1), 5);
    }

    /** Places 0 to 4 cost 4, 8, 6, 3, 0 minutes to be made ready. */
    private static void hireSoManyAtMost(int down) {
        LockFlight x = Way.flight(down, 0, Way.place(PLAIN, Way.WRONG, 1), Way.place(STIFF, Way.WRONG, 1),
            Way.place(DEEP, Way.WRONG, 1), Way.place(GUARDED, Way.WRONG, 1), Way.place(LEAKING, Way.RIGHT, 1));
        int all = x.takes(down, 0, 1, 0, 0);
        int[] up = {0, 2, 2 + 4, 1 + 2 + 4};
        int[] downwards = {0, 8, 8 + 4, 16 + 8 + 4};
        int[] fewer = {0, 8, 14, 18};
        for (int n = 0; n <= 3; n++) {
            Check.due("which " + n, x.hire(down, 0, 1, n, 0), down == 0 ? up[n] : downwards[n]);
            Check.due("MINUTES " + n, x.hire(down, 0, 1, n, 1), all - fewer[n]);
        }
        LockFlight two = Way.flight(down, 5, Way.places(2, PLAIN, Way.WRONG, 1));
        Check.due("three men, two locks", two.hire(down, 0, 1, 3, 0), 3);
        Check.due("three men, two locks, MINUTES", two.hire(down, 0, 1, 3, 1), 13);
        LockFlight one = Way.flight(down, 5, Way.place(PLAIN, Way.RIGHT, 1), Way.place(PLAIN, Way.WRONG, 1));
        Check.due("three men, one lock that stands wrong", one.hire(down, 0, 1, 3, 0), down == 0 ? 2 : 1);
    }

    private static void hireOfLikeOnes(int down) {
        LockFlight like = Way.flight(down, 5, Way.places(8, PLAIN, Way.WRONG, 1));
        Check.due("one of eight alike", like.hire(down, 0, 1, 1, 0), 1);
        Check.due("two of eight alike", like.hire(down, 0, 1, 2, 0), 3);
        Check.due("three of eight alike", like.hire(down, 0, 1, 3, 0), 7);
        LockFlight right = Way.flight(down, 5, Way.places(8, PLAIN, Way.RIGHT, 1));
        Check.due("none is worth it", right.hire(down, 0, 1, 3, 0), 0);
        // he is ahead of the boat everywhere but at place 0
        LockFlight ahead = Way.flight(down, 5, Way.places(4, PLAIN, Way.WRONG, 10));
        Check.due("one is enough", ahead.hire(down, BICYCLE, 9, 3, 0), down == 0 ? 1 : 8);
        Check.due("one is enough, MINUTES", ahead.hire(down, BICYCLE, 9, 3, 1), 54);
    }

    private static void hiredLocksStayRight(int down) {
        // he would make the rusty one READY too early: 51; hired men save its leaking back
        LockFlight x = Way.flight(down, 5, Way.place(DEEP, Way.RIGHT, 20), Way.place(DEEP, Way.RIGHT, 1),
            Way.place(RUSTY, Way.WRONG, 1));
        Check.due("none hired", x.hire(down, BICYCLE, 9, 0, 1), 51);
        Check.due("which", x.hire(down, BICYCLE, 9, 1, 0), down == 0 ? 4 : 1);
        Check.due("MINUTES", x.hire(down, BICYCLE, 9, 1, 1), 47);
        Check.due("no lock is turned", x.takes(down, BICYCLE, 9, 0, 0), 51);
    }

    private static void hireTellsLocksByNumber() {
        for (int down = 0; down < 2; down++) {
            LockFlight x = new LockFlight();
            x.flight(5);
            for (int lock = 0; lock < 8; lock++) {
                x.lock(PLAIN, lock >= 5 ? 1 - down : down, 1);
            }
            Check.due("locks 5, 6, 7", x.hire(down, 0, 1, 3, 0), 32 + 64 + 128);
            Check.due("locks 5, 6", x.hire(down, 0, 1, 2, 0), 32 + 64);
            Check.due("lock 5", x.hire(down, 0, 1, 1, 0), 32);
        }
    }

    private static void darkInTheMinute(int down) {
        LockFlight x = Way.flight(down, 5, Way.places(8, PLAIN, Way.RIGHT, 4));
        for (int n = 1; n <= 8; n++) {
            int out = 10 * n - 4;
            Check.due("dark a minute ahead", x.dark(down, 0, 1, out - 1), n - 1);
            Check.due("dark in the minute", x.dark(down, 0, 1, out), n);
            Check.due("dark a minute behind", x.dark(down, 0, 1, out + 1), n);
        }
        Check.due("dark at once", x.dark(down, 0, 1, 0), 0);
        Check.due("dark in 999", x.dark(down, 0, 1, 999), 8);
        LockFlight led = Way.flight(down, 5, Way.place(PLAIN, Way.RIGHT, 4), Way.place(PLAIN, Way.WRONG, 4));
        Check.due("nobody ahead in 16", led.dark(down, 0, 1, 16), 1);
        Check.due("somebody ahead in 16", led.dark(down, FOOT, 1, 16), 2);
    }

    /** From places 0, 1, 2 on standing right is worth 4 + 8 + 6, 8 + 6, 6 minutes. */
    private static void waitsFromEachPlace(int down) {
        LockFlight x = Way.flight(down, 4, Way.place(PLAIN, Way.WRONG, 3), Way.place(STIFF, Way.WRONG, 3),
            Way.place(DEEP, Way.WRONG, 3));
        int[] worth = {18, 14, 6};
        for (int place = 0; place < 3; place++) {
            Check.due("at once", x.waits(down, 0, 1, place, 0), 1);
            Check.due("fewer", x.waits(down, 0, 1, place, worth[place] - 1), 1);
            Check.due("as many", x.waits(down, 0, 1, place, worth[place]), 0);
            Check.due("more", x.waits(down, 0, 1, place, worth[place] + 1), -1);
        }
        LockFlight right = Way.flight(down, 4, Way.places(2, PLAIN, Way.RIGHT, 3));
        Check.due("nothing to gain, no wait", right.waits(down, 0, 1, 1, 0), 0);
        Check.due("nothing to gain, a minute", right.waits(down, 0, 1, 1, 1), -1);
    }

    /** 8 rusty locks cost 64 minutes to be made ready: even an hour is worth it; 7 stiff ones and a plain one cost 60. */
    private static void waitsAnHour(int down) {
        LockFlight x = Way.flight(down, 4, Way.places(8, RUSTY, Way.WRONG, 1));
        Check.due("an hour", x.waits(down, 0, 1, 0, 60), 1);
        Check.due("an hour for 7 of them", x.waits(down, 0, 1, 1, 60), -1);
        Check.due("an hour and a minute", x.waits(down, 0, 1, 0, 61), -2);
        int[][] places = Way.places(8, STIFF, Way.WRONG, 1);
        places[3] = Way.place(PLAIN, Way.WRONG, 1);
        LockFlight sixty = Way.flight(down, 4, places);
        Check.due("just an hour", sixty.waits(down, 0, 1, 0, 60), 0);
        Check.due("just less", sixty.waits(down, 0, 1, 0, 59), 1);
    }

    private static void shareAtOnceAndLate(int down) {
        // by itself 6 + 3 + 6, the second one 4 more at each lock, shared 3 more at each lock
        LockFlight x = Way.flight(down, 5, Way.places(2, PLAIN, Way.RIGHT, 3));
        Check.due("x 0", x.share(down, 0, 1, 0), 15 + 23 - 21);
        Check.due("x 14", x.share(down, 0, 1, 14), 15 + 23 - 35);
        Check.due("x 15: as the first one is out", x.share(down, 0, 1, 15), 15 + 23 - 36);
        Check.due("x 16: the second one comes behind that", x.share(down, 0, 1, 16), 16 + 23 - 37);
        Check.due("x 60", x.share(down, 0, 1, 60), 60 + 23 - 81);
        // somebody ahead makes the second one's lock 1 ready, too: 10 + 3 + 6 behind the first one
        Check.due("somebody ahead, x 0", x.share(down, FOOT, 9, 0), 15 + 19 - 21);
        Check.due("somebody ahead, x 60: below 0", x.share(down, FOOT, 9, 60), 19 - 21);
        LockFlight wrong = Way.flight(down, 5, Way.place(PLAIN, Way.WRONG, 1));
        Check.due("none earlier", wrong.share(down, 0, 1, 7), 0);
        Check.due("one later", wrong.share(down, 0, 1, 8), -1);
        Check.due("nothing was refused", x.status(0) + wrong.status(0), 0);
    }

    private static void keyFromPlaceToPlace(int down) {
        LockFlight x = Way.flight(down, 5, Way.place(PLAIN, Way.RIGHT, 1), Way.place(PLAIN, Way.RIGHT, 2),
            Way.place(PLAIN, Way.RIGHT, 19), Way.place(PLAIN, Way.RIGHT, 20));
        int[] minutes = {2, 2, 20};
        for (int a = 0; a < 4; a++) {
            int sum = 0;
            for (int b = a; b < 4; b++) {
                Check.due("key(" + a + ", " + b + ")", x.key(down, a, b), sum);
                sum += b < 3 ? minutes[b] : 0;
            }
            Check.due("a above b", x.key(down, a, a - 1), -2);
            Check.due("b behind the last", x.key(down, a, 4), -2);
        }
        LockFlight longest = Way.flight(down, 5, Way.places(8, PLAIN, Way.RIGHT, 20));
        Check.due("over all", longest.key(down, 0, 7), 140);
    }

    private static void readingsUpToSix() {
        LockFlight x = Check.flight(5, Check.lock(PLAIN, 0, 1));
        int[] minutes = {0, 999, 0, 0, 1, 998};
        for (int i = 0; i < 6; i++) {
            Check.due("reading " + i, x.reading(0, minutes[i]), i);
            Check.due("READINGS", x.count(4), i + 1);
        }
        Check.due("7th", x.reading(0, 0), -4);
        Check.due("READINGS stay 6", x.count(4), 6);
        Check.due("forget", x.forget(), 6);
        Check.due("forget none", x.forget(), 0);
        Check.due("first again", x.reading(0, 7), 0);
        // a place that is there only since another lock came
        Check.due("no such place", x.reading(1, 0), -2);
        x.lock(PLAIN, 0, 1);
        Check.due("now there is", x.reading(1, 0), 1);
        Check.due("READINGS are not undone", x.undo(), -3);
        x.turn(0);
        x.forget();
        x.undo();
        Check.due("forgotten ones stay so", x.count(4), 0);
    }

    private static void leadsThatFit(int down) {
        // GOES IN at place 2: 16 by k 1, 14 by all others
        LockFlight x = Way.flight(down, 4, Way.place(PLAIN, Way.RIGHT, 1), Way.place(PLAIN, Way.RIGHT, 1),
            Way.place(STIFF, Way.WRONG, 1));
        Check.due("no READINGS", x.leads(down, FOOT, 0), 1022);
        LockFlight late = Way.flight(down, 4, Way.place(STIFF, Way.WRONG, 1));
        Check.due("no READINGS, the boat waits at place 0", late.leads(down, FOOT, 0), 1022);
        x.reading(2, 16);
        Check.due("k 1", x.leads(down, FOOT, 0), 2);
        x.reading(2, 16);
        x.reading(1, 7);
        x.reading(0, 0);
        Check.due("more that are so", x.leads(down, FOOT, 0), 2);
        x.reading(0, 1);
        Check.due("one that is not so", x.leads(down, FOOT, 0), 0);
        x.forget();
        x.reading(2, 14);
        Check.due("k 2 to 9", x.leads(down, FOOT, 0), 1020);
        x.forget();
        x.reading(2, 15);
        Check.due("between them none", x.leads(down, FOOT, 0), 0);
        Check.due("READINGS stay", x.count(4), 1);
    }

    /** k 1 to 6, and 7 to 9, are told apart by a place 7 that leaks back for who goes off to it too early. */
    private static void leadsAtTheEnds(int down) {
        int[][] places = Way.places(8, PLAIN, Way.RIGHT, 4);
        places[0] = Way.place(DEEP, Way.RIGHT, 8);
        places[6] = Way.place(PLAIN, Way.RIGHT, 14);
        places[7] = Way.place(GUARDED, Way.WRONG, 1);
        LockFlight x = Way.flight(down, 5, places);
        // the boat comes to place 1 in 17, 10 minutes on from place to place, to place 7 in 87
        // by bicycle he comes to place 6 in 4 + 5 times 2, and may go off to place 7 in 14, by k 6 in 17
        Check.due("COMES", x.at(down, BICYCLE, 7, 0, 7, 0), 87);
        Check.due("k 7, DONE", x.at(down, BICYCLE, 7, 0, 7, 3), 24);
        Check.due("k 6, DONE", x.at(down, BICYCLE, 6, 0, 7, 3), 27);
        x.reading(7, 87);
        Check.due("k 1 to 6", x.leads(down, BICYCLE, 0), 126);
        x.forget();
        x.reading(7, 90);
        Check.due("k 7 to 9", x.leads(down, BICYCLE, 0), 896);
        Check.due("on foot none", x.leads(down, FOOT, 0), 0);
    }

    /** The boat comes to place 1 in 7, shut in 9; he is DONE there in 9. */
    private static void notShutWhereItIsNotTold(int down) {
        LockFlight x = Way.flight(down, 4, Way.place(PLAIN, Way.RIGHT, 1), Way.place(STIFF, Way.WRONG, 1));
        Check.due("takes", x.takes(down, FOOT, 1, 0, 0), 17);
        Check.due("takes, shut", x.takes(down, FOOT, 1, 1, 0), 19);
        Check.due("hire, none", x.hire(down, FOOT, 1, 0, 1), 17);
        Check.due("hire, one", x.hire(down, FOOT, 1, 1, 1), 15);
        Check.due("dark in 16", x.dark(down, FOOT, 1, 16), 1);
        Check.due("dark in 17", x.dark(down, FOOT, 1, 17), 2);
        Check.due("waits 1", x.waits(down, FOOT, 1, 1, 1), 1);
        Check.due("waits 2", x.waits(down, FOOT, 1, 1, 2), 0);
        Check.due("waits 3", x.waits(down, FOOT, 1, 1, 3), -1);
        // the second one: 4 + 6, he is DONE in 13, 13 + 8; shared: 9, comes in 10, 10 + 11
        Check.due("share", x.share(down, FOOT, 1, 0), 17 + 21 - 21);
    }

    private static void fraction(LockFlight x, String told, long above, long below) {
        Check.due(told + ", above", x.part(0), above);
        Check.due(told + ", below", x.part(1), below);
    }

    /** SEED 0: X is 12345, 1406932606, 654583775, ..: 0, 21468, 9988 by 65536, all even. */
    private static void drawnFromTheLeastSeed() {
        LockFlight x = Check.flight(5, Check.lock(PLAIN, 1, 1));
        fraction(x, "at first", 0, 1);
        Check.due("n 0", x.drawn(0, 0, 0, 1), -3);
        fraction(x, "refused", 0, 1);
        Check.due("n 1", x.drawn(0, 1, 0, 1), 1);
        fraction(x, "low", 6, 1);
        Check.due("n 31", x.drawn(0, 31, 0, 1), -2);
        fraction(x, "refused again", 6, 1);
        Check.due("SEED 1000000", x.drawn(1000000, 1, 0, 1), -2);
        Check.due("SEED -1", x.drawn(-1, 1, 0, 1), -2);
        // 999999 times 1103515245 and 12345, by 2147483648: 1751684876 left over, 26728 by 65536: low
        Check.due("SEED 999999", x.drawn(999999, 1, 0, 1), 1);
        fraction(x, "SEED 999999", 6, 1);
        Check.due("STANDS stays", x.of(0, 1), 1);
        Check.due("TIME stays", x.count(2), 0);
        Check.due("WATER stays", x.count(3), 0);
        Check.due("nothing to undo", x.count(5), 0);
    }

    /** One lock, so that each RUN takes one X: by SEED 0 it is low, low, low, high, low, high, high, high, low. */
    private static void drawnGoesOnFromRunToRun() {
        LockFlight x = Check.flight(5, Check.lock(PLAIN, 1, 1));
        int[] stands = {0, 0, 0, 1, 0, 1, 1, 1, 0};
        long total = 0;
        for (int n = 1; n <= stands.length; n++) {
            total += stands[n - 1] == 1 ? 10 : 6;
            Check.due("drawn " + n, x.drawn(0, n, 0, 1), 1);
            Check.due("mean of " + n, x.part(0) * n, total * x.part(1));
        }
        Check.due("the same again", x.drawn(0, 9, 0, 1), 1);
        fraction(x, "the same again", 70, 9);
    }

    /** Three X for each RUN up: low low low, high low high, high high low; what was asked ahead of it is nothing to it. */
    private static void drawnForEachLock() {
        LockFlight x = Check.flight(5, Check.lock(PLAIN, 1, 1), Check.lock(DEEP, 1, 1), Check.lock(GUARDED, 1, 1));
        long[][] want = {{23, 1}, {53, 2}, {86, 3}};
        for (int n = 1; n <= 3; n++) {
            x.takes(1, BICYCLE, 1, 1, 0);
            Check.due("drawn " + n, x.drawn(0, n, 0, 1), 1);
            fraction(x, "nobody ahead, n " + n, want[n - 1][0], want[n - 1][1]);
        }
        // somebody ahead: 23; 4 more at place 0; 4 more at place 0, and DEEP is made ready as the boat passes PLAIN
        x.takes(1, 0, 9, 1, 0);
        Check.due("drawn, on foot", x.drawn(0, 3, FOOT, 9), 1);
        fraction(x, "on foot", 77, 3);
    }

    private static void drawnInLowestTerms() {
        LockFlight x = Check.flight(5, Check.lock(PLAIN, 1, 1));
        x.drawn(0, 3, 0, 1);
        fraction(x, "6, 6, 6", 6, 1);
        x.drawn(0, 4, 0, 1);
        fraction(x, "28 by 4", 7, 1);
        x.drawn(0, 6, 0, 1);
        fraction(x, "44 by 6", 22, 3);
        x.drawn(0, 8, 0, 1);
        fraction(x, "64 by 8", 8, 1);
        x.flight(5);
        fraction(x, "flight leaves it", 8, 1);
        Check.due("no locks", x.drawn(0, 30, 0, 1), 1);
        fraction(x, "no locks", 0, 1);
    }
}
