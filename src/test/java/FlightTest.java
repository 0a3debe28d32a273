/** Promises 1 to 8: a new object, flight, lock, strength, turn, type, clear, read. */
public final class FlightTest {
    public static void main(String[] args) {
        newObject();
        flight();
        lock();
        strength();
        turn();
        typeAndClear();
        readGood();
        readFaults();
        readReplaces();
        Check.end();
    }

    private static void newObject() {
        LockFlight x = new LockFlight();
        int[] counts = {0, 5, 0, 0, 0, 0, 0};
        for (int what = 0; what < counts.length; what++) {
            Check.due("new count(" + what + ")", x.count(what), counts[what]);
        }
        for (int what = 0; what < 3; what++) {
            Check.due("new status(" + what + ")", x.status(what), 0);
        }
        Check.due("new part(0)", x.part(0), 0);
        Check.due("new part(1)", x.part(1), 1);
        Check.due("new from(0)", x.from(0), LockFlight.NO);
        Check.due("new from(1)", x.from(1), LockFlight.NO);
        Check.due("new undo()", x.undo(), LockFlight.NO);
    }

    private static void flight() {
        LockFlight x = new LockFlight();
        x.lock(0, 1, 3);
        x.lock(1, 0, 3);
        x.reading(1, 9);
        x.run(0, 0, 1, 0);
        x.image(1);
        x.drawn(1, 2, 0, 1);
        Check.type(x, "abc");
        long above = x.part(0);
        long below = x.part(1);
        x.count(9);
        Check.due("flight(-1)", x.flight(-1), -2);
        Check.due("flight(10)", x.flight(10), -2);
        Check.due("count(0) behind refused flights", x.count(0), 2);
        Check.due("flight(0)", x.flight(0), 2);
        int[] counts = {0, 0, 0, 0, 0, 0, 3};
        for (int what = 0; what < counts.length; what++) {
            Check.due("flight, count(" + what + ")", x.count(what), counts[what]);
        }
        Check.due("flight, part(0)", x.part(0), above);
        Check.due("flight, part(1)", x.part(1), below);
        Check.due("flight, status(0)", x.status(0), 3);
        Check.due("flight, undo()", x.undo(), -3);
        Check.due("flight, lock is low again", x.lock(2, 0, 1), 0);
        Check.due("flight, of(0, 1)", x.of(0, 1), 0);
        Check.due("flight(9)", x.flight(9), 1);
        Check.due("flight keeps the images", x.from(1), 1);
        Check.due("from(1), count(0)", x.count(0), 2);
    }

    private static void lock() {
        LockFlight x = new LockFlight();
        int[][] wrong = {{-1, 0, 1}, {6, 0, 1}, {0, -1, 1}, {0, 2, 1}, {0, 0, 0}, {0, 0, 21}, {0, 0, -5}};
        for (int[] row : wrong) {
            Check.due("wrong lock", x.lock(row[0], row[1], row[2]), -2);
        }
        Check.due("no lock came", x.count(0), 0);
        for (int i = 0; i < 8; i++) {
            Check.due("lock " + i, x.lock(i % 6, i % 2, i == 0 ? 1 : 20), i);
        }
        Check.due("9th lock", x.lock(0, 0, 1), -4);
        Check.due("9th lock, wrong", x.lock(6, 0, 1), -2);
        Check.due("still 8", x.count(0), 8);
        Check.due("status(0)", x.status(0), 8);
        Check.due("status(2)", x.status(2), 1);
        for (int i = 0; i < 8; i++) {
            Check.due("KIND " + i, x.of(i, 0), i % 6);
            Check.due("STANDS " + i, x.of(i, 1), i % 2);
            Check.due("ROAD " + i, x.of(i, 2), i == 0 ? 1 : 20);
        }
        x.flight(5);
        x.lock(0, 0, 1);
        x.turn(0);
        x.lock(9, 9, 9);
        Check.due("a refused lock leaves what may be undone", x.count(5), 1);
        x.lock(0, 0, 1);
        Check.due("a lock leaves nothing to undo", x.count(5), 0);
        Check.due("the turned lock stays turned", x.of(0, 1), 1);
    }

    private static void strength() {
        LockFlight x = new LockFlight();
        Check.due("strength(-1)", x.strength(-1), -2);
        Check.due("strength(10)", x.strength(10), -2);
        Check.due("strength(0)", x.strength(0), 5);
        Check.due("strength(9)", x.strength(9), 0);
        Check.due("count(1)", x.count(1), 9);
        x.lock(1, 0, 1);
        x.turn(0);
        x.strength(3);
        x.undo();
        Check.due("strength is not undone", x.count(1), 3);
        Check.due("strength may not be undone", x.undo(), -3);
    }

    private static void turn() {
        LockFlight x = Check.flight(5, Check.lock(0, 0, 1), Check.lock(2, 1, 1));
        Check.due("turn(-1)", x.turn(-1), -2);
        Check.due("turn(2)", x.turn(2), -2);
        Check.due("turn(0)", x.turn(0), 1);
        Check.due("turn(1)", x.turn(1), 0);
        Check.due("of(0, 1)", x.of(0, 1), 1);
        Check.due("of(1, 1)", x.of(1, 1), 0);
        Check.due("turn(1) again", x.turn(1), 1);
        Check.due("turn takes no time", x.count(2), 0);
        Check.due("turn takes no water", x.count(3), 0);
        Check.due("turns may be undone", x.count(5), 3);
    }

    private static void typeAndClear() {
        LockFlight x = new LockFlight();
        Check.due("type(-1)", x.type(-1), -2);
        Check.due("type(128)", x.type(128), -2);
        Check.due("type(0)", x.type(0), 1);
        Check.due("type(127)", x.type(127), 2);
        Check.due("clear()", x.clear(), 2);
        Check.due("clear() again", x.clear(), 0);
        for (int i = 1; i <= 150; i++) {
            Check.due("type " + i, x.type(32), i);
        }
        Check.due("151st", x.type(32), -4);
        Check.due("151st, wrong", x.type(200), -2);
        Check.due("count(6)", x.count(6), 150);
        Check.due("150 blanks", x.read(), -160);
        Check.due("clear() of 150", x.clear(), 150);
        Check.due("type behind clear", x.type(1), 1);
    }

    private static int read(String text) {
        LockFlight x = new LockFlight();
        Check.type(x, text);
        return x.read();
    }

    private static void readGood() {
        Check.due("flight alone", read("flight 0;"), 1);
        Check.due("no blanks", read("flight9;lock5 1 20;lock0 0 1;"), 3);
        Check.due("blanks", read("   flight   07  ;   lock  00 01   20 ;  "), 2);
        Check.due("8 locks", read("flight5;" + "lock0 0 1;".repeat(8)), 9);
        LockFlight x = new LockFlight();
        Check.type(x, "flight 3;lock 4 1 17;lock 03 00 02;");
        Check.due("read()", x.read(), 3);
        int[] counts = {2, 3, 0, 0, 0, 0, 35};
        for (int what = 0; what < counts.length; what++) {
            Check.due("read, count(" + what + ")", x.count(what), counts[what]);
        }
        int[][] locks = {{4, 1, 17}, {3, 0, 2}};
        for (int i = 0; i < 2; i++) {
            for (int what = 0; what < 3; what++) {
                Check.due("read, of(" + i + ", " + what + ")", x.of(i, what), locks[i][what]);
            }
        }
        Check.due("the text stays", x.read(), 3);
    }

    private static void fault(String text, int place) {
        Check.due("'" + text + "'", read(text), -10 - place);
    }

    private static void readFaults() {
        fault("", 0);
        fault("  ", 2);
        fault("flight", 6);
        fault("flight ", 7);
        fault("flight 1", 8);
        fault("flight 1;lock", 13);
        fault("flight 1;lock 0", 15);
        fault("flight 1;lock 0 1", 17);
        fault("flight 1;lock 0 1 20", 20);
        fault("flight 1;lock 0 1 20 ", 21);
        fault("fligh 1;", 0);
        fault(" flights 1;", 1);
        fault("flightlock 1;", 0);
        fault("Flight 1;", 0);
        fault("fliGht 1;", 0);
        fault("lock 0 0 1;flight 1;", 0);
        fault(";flight 1;", 0);
        fault("1 flight 1;", 0);
        fault("flight ;", 7);
        fault("flight flight 1;", 7);
        fault("flight 10;", 7);
        fault("flight 10", 7);
        fault("flight 001;", 7);
        fault("flight 1 1;", 9);
        fault("flight 1 lock 0 0 1;", 9);
        fault("flight 1;flight 1;", 9);
        fault("flight 1;;", 9);
        fault("flight 1; 5;", 10);
        fault("flight 1; l", 10);
        fault("flight 1;lock 6 0 1;", 14);
        fault("flight 1;lock plain 0 1;", 14);
        fault("flight 1;lock 0 2 1;", 16);
        fault("flight 1;lock 0 0 0;", 18);
        fault("flight 1;lock 0 0 21;", 18);
        fault("flight 1;lock 0 0 020;", 18);
        fault("flight 1;lock 0 0 20 1;", 21);
        fault("flight 1;lock 0 0 20A;", 20);
        fault("flight 1;lock 00 1;", 18);
        fault("flight 1;lock 0 01;", 18);
        fault("flight 1;lock 0 0 -1;", 18);
        fault("flight\t1;", 6);
        fault("flight 1;" + (char) 0, 9);
        fault("flight 1;" + (char) 127, 9);
        fault("flight 1{", 8);
        fault("flight 1:", 8);
        fault("flight 1/", 8);
        fault("flight 1`", 8);
        fault("flight5;" + "lock0 0 1;".repeat(8) + " lock", 89);
        fault("flight5;" + "lock0 0 1;".repeat(9), 88);
        fault("flight5;" + "lock0 0 1;".repeat(8) + ";", 88);
    }

    private static void readReplaces() {
        LockFlight x = Check.flight(2, Check.lock(0, 1, 3), Check.lock(0, 0, 3));
        x.reading(0, 1);
        x.run(0, 0, 1, 0);
        x.image(0);
        x.drawn(1, 1, 0, 1);
        x.status(7);
        Check.type(x, "flight 8;lock");
        long before = x.digest();
        Check.due("a fault", x.read(), -23);
        Check.due("all stays at a fault", x.digest(), before);
        Check.due("a fault is no BAD", x.status(0), 1);
        Check.due("a fault is no NO", x.status(1), 0);
        Check.due("a fault is no FULL", x.status(2), 0);
        long above = x.part(0);
        Check.type(x, " 1 1 4;");
        Check.due("mended", x.read(), 2);
        int[] counts = {1, 8, 0, 0, 0, 0, 20};
        for (int what = 0; what < counts.length; what++) {
            Check.due("replaced, count(" + what + ")", x.count(what), counts[what]);
        }
        Check.due("nothing to undo", x.undo(), -3);
        Check.due("THE FRACTION stays", x.part(0), above);
        Check.due("STATUS stays", x.status(0), 1);
        Check.due("IMAGES stay", x.from(0), 1);
        Check.due("from(0), count(5)", x.count(5), 1);
    }
}
