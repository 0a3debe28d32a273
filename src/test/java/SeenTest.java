/** Promises 22 to 25: reading, forget, leads, drawn. */
public final class SeenTest {
    public static void main(String[] args) {
        readings();
        leads();
        leadsDown();
        drawn();
        Check.end();
    }

    private static void readings() {
        LockFlight x = new LockFlight();
        Check.due("no place", x.reading(0, 0), -2);
        x.lock(0, 0, 1);
        x.lock(0, 0, 1);
        Check.due("place -1", x.reading(-1, 0), -2);
        Check.due("place 2", x.reading(2, 0), -2);
        Check.due("minute -1", x.reading(0, -1), -2);
        Check.due("minute 1000", x.reading(0, 1000), -2);
        Check.due("forget none", x.forget(), 0);
        for (int i = 0; i < 6; i++) {
            Check.due("reading " + i, x.reading(i % 2, i == 0 ? 999 : 0), i);
        }
        Check.due("7th", x.reading(0, 0), -4);
        Check.due("7th, wrong", x.reading(2, 0), -2);
        Check.due("count(4)", x.count(4), 6);
        x.lock(0, 0, 1);
        Check.due("a lock leaves them", x.count(4), 6);
        Check.due("status(0)", x.status(0), 6);
        Check.due("status(2)", x.status(2), 1);
        Check.due("forget", x.forget(), 6);
        Check.due("count(4) behind", x.count(4), 0);
        Check.due("forgetting may not be undone", x.count(5), 0);
        Check.due("first again", x.reading(1, 7), 0);
    }

    private static void leads() {
        LockFlight x = Check.flight(0, Check.lock(0, 0, 1), Check.lock(0, 0, 1), Check.lock(1, 1, 1));
        int[][] wrong = {{-1, 1, 0}, {2, 1, 0}, {0, 0, 0}, {0, 3, 0}, {0, 1, -1}, {0, 1, 2}};
        for (int[] r : wrong) {
            Check.due("wrong leads", x.leads(r[0], r[1], r[2]), -2);
        }
        Check.due("no readings: all", x.leads(0, 1, 0), 1022);
        x.reading(0, 0);
        Check.due("all go in in 0", x.leads(0, 1, 0), 1022);
        // goes in in 16 by k 1, in 14 by all others
        x.reading(2, 16);
        Check.due("k 1 alone", x.leads(0, 1, 0), 2);
        Check.due("never both", x.reading(2, 14), 2);
        Check.due("none", x.leads(0, 1, 0), 0);
        x.forget();
        x.reading(2, 14);
        Check.due("all but k 1", x.leads(0, 1, 0), 1020);
        x.forget();
        x.reading(2, 18);
        Check.due("not shut", x.leads(0, 1, 0), 0);
        Check.due("shut", x.leads(0, 2, 1), 1022);
        Check.due("no locks", new LockFlight().leads(1, 2, 1), 1022);
    }

    /** Places are told in the order of the run: place 0 of a run down is the last lock. */
    private static void leadsDown() {
        LockFlight x = Check.flight(5, Check.lock(0, 0, 1), Check.lock(0, 1, 1));
        x.reading(0, 0);
        Check.due("up", x.leads(0, 1, 0), 1022);
        Check.due("down", x.leads(1, 1, 0), 1022);
        x.turn(1);
        Check.due("up, turned", x.leads(0, 1, 0), 1022);
        Check.due("down, turned", x.leads(1, 1, 0), 0);
        x.forget();
        x.reading(0, 4);
        Check.due("down, turned, 4", x.leads(1, 2, 0), 1022);
    }

    private static void drawn() {
        LockFlight x = Check.flight(5, Check.lock(0, 1, 1), Check.lock(4, 0, 1), Check.lock(5, 0, 1));
        int[][] wrong = {{-1, 1, 0, 1}, {1000000, 1, 0, 1}, {0, -1, 0, 1}, {0, 31, 0, 1},
            {0, 1, -1, 1}, {0, 1, 3, 1}, {0, 1, 0, 0}, {0, 1, 0, 10}, {0, 0, 0, 0}};
        for (int[] r : wrong) {
            Check.due("wrong drawn", x.drawn(r[0], r[1], r[2], r[3]), -2);
        }
        Check.due("n 0", x.drawn(0, 0, 0, 1), -3);
        Check.due("status(0)", x.status(0), wrong.length);
        Check.due("status(1)", x.status(1), 1);
        Check.due("part(0) as ahead", x.part(0), 0);
        Check.due("part(1) as ahead", x.part(1), 1);
        long before = x.count(2);
        // X: 12345, 1406932606, 654583775; by 65536: 0, 21468, 9988; all low: 6 + 1 + 9 + 1 + 6
        Check.due("drawn(0, 1, 0, 1)", x.drawn(0, 1, 0, 1), 1);
        Check.due("part(0)", x.part(0), 23);
        Check.due("part(1)", x.part(1), 1);
        // X: 1449466924 (22117: high), 229283573 (3498: low), 1109335178 (16927: high): 23 + 4 + 3
        // X: 1051550459 (16045: high), 1293799192 (19741: high), 794471793 (12122: low): 23 + 4 + 6
        Check.due("drawn(0, 2, 0, 1)", x.drawn(0, 2, 0, 1), 1);
        Check.due("part(0) of two", x.part(0), 53);
        Check.due("part(1) of two", x.part(1), 2);
        Check.due("drawn(0, 3, 0, 1)", x.drawn(0, 3, 0, 1), 1);
        Check.due("part(0) of three", x.part(0), 86);
        Check.due("part(1) of three", x.part(1), 3);
        Check.due("time stays", x.count(2), before);
        Check.due("STANDS stays", x.of(0, 1), 1);
        Check.due("no undo", x.count(5), 0);
        Check.due("seed 999999, n 30", x.drawn(999999, 30, 2, 9), 1);
        LockFlight none = new LockFlight();
        none.drawn(7, 30, 1, 3);
        Check.due("no locks: above", none.part(0), 0);
        Check.due("no locks: below", none.part(1), 1);
    }
}
