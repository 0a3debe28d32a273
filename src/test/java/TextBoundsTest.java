import java.util.List;

/** THE TEXT and how it is read: each sentence that names a bound, from both sides of it. */
public final class TextBoundsTest {
    private static final String BLANK_LOCK = "lock 0 0 1;";

    public static void main(String[] args) {
        everyByteIsTaken();
        fullTextIsRead();
        faultsOfAFullText();
        endsTooEarly();
        numbersOfTheItems();
        figures();
        wordsThatAreNone();
        blanks();
        whichByteMayStandWhere();
        flightOnceAndFirst();
        ninthLock();
        faultLeavesAll();
        readTakesThePlaceOfAll();
        textIsKeptAndGrows();
        clearedBytesAreGone();
        Check.end();
    }

    private static LockFlight typed(String text) {
        LockFlight x = new LockFlight();
        Check.type(x, text);
        Check.due("bytes of '" + text + "'", x.count(6), text.length());
        return x;
    }

    private static void items(String text, int items) {
        Check.due("'" + text + "'", typed(text).read(), items);
    }

    private static void fault(String text, int place) {
        Check.due("'" + text + "'", typed(text).read(), -10 - place);
    }

    private static void everyByteIsTaken() {
        LockFlight x = new LockFlight();
        for (int c = 0; c <= 127; c++) {
            Check.due("type(" + c + ")", x.type(c), c + 1);
        }
        Check.due("type(128)", x.type(128), -2);
        Check.due("type(255)", x.type(255), -2);
        Check.due("type(-1)", x.type(-1), -2);
        Check.due("bytes", x.count(6), 128);
        Check.due("cleared", x.clear(), 128);
        Check.due("cleared again", x.clear(), 0);
    }

    private static void fullTextIsRead() {
        String locks = "lock 5 1 20;".repeat(8);
        String text = "flight 9;" + locks;
        LockFlight x = typed(text + " ".repeat(150 - text.length()));
        Check.due("the 151st byte", x.type(';'), -4);
        Check.due("150 bytes", x.read(), 9);
        Check.due("STRENGTH", x.count(1), 9);
        for (int lock = 0; lock < 8; lock++) {
            Check.due("KIND", x.of(lock, 0), 5);
            Check.due("STANDS", x.of(lock, 1), 1);
            Check.due("ROAD", x.of(lock, 2), 20);
        }
        LockFlight late = typed(" ".repeat(150 - text.length()) + text);
        Check.due("; is the 150th byte", late.read(), 9);
        Check.due("bytes of a full text stay", late.clear(), 150);
    }

    private static void faultsOfAFullText() {
        String good = "flight 9;" + " ".repeat(139);
        fault(good + " ;", 149);
        fault(good + " l", 149);
        fault(good + "99", 148);
        fault(" ".repeat(150), 150);
        fault(" ".repeat(149) + "f", 149);
        fault(" ".repeat(144) + "flight", 150);
        fault("f".repeat(150), 0);
        fault("9".repeat(150), 0);
        fault(";".repeat(150), 0);
        fault("flight " + "1".repeat(143), 7);
        fault("flight 9;" + "lock".repeat(35), 9);
    }

    private static void endsTooEarly() {
        String text = "flight 3;lock 4 1 20;";
        // behind its own ; a text may end, elsewhere it may not; behind a word's part it is none
        for (int length = 0; length <= text.length(); length++) {
            String start = text.substring(0, length);
            if (length == 9) {
                items(start, 1);
            } else if (length == 21) {
                items(start, 2);
            } else if (length > 0 && length < 6) {
                fault(start, 0);
            } else if (length > 9 && length < 13) {
                fault(start, 9);
            } else {
                fault(start, length);
            }
        }
        fault("flight 3;lock 4 1 20  ", 22);
        fault("     ", 5);
    }

    private static void numbersOfTheItems() {
        number("flight ", ";", 0, 9);
        number("flight 1;lock ", " 0 1;", 0, 5);
        number("flight 1;lock 0 ", " 1;", 0, 1);
        number("flight 1;lock 0 0 ", ";", 1, 20);
    }

    /** All numbers of one and two figures, those with a 0 ahead among them. */
    private static void number(String ahead, String behind, int least, int most) {
        for (int n = 0; n <= 99; n++) {
            boolean good = n >= least && n <= most;
            for (String told : List.of("" + n, n < 10 ? "0" + n : "" + n)) {
                String text = ahead + told + behind;
                int items = ahead.contains("lock") ? 2 : 1;
                Check.due("'" + text + "'", typed(text).read(), good ? items : -10 - ahead.length());
            }
        }
    }

    private static void figures() {
        items("flight 09;lock 05 01 20;", 2);
        items("flight 00;lock 00 00 01;", 2);
        fault("flight 000;", 7);
        fault("flight 009;", 7);
        fault("flight 1;lock 000 0 1;", 14);
        fault("flight 1;lock 0 001 1;", 16);
        fault("flight 1;lock 0 0 001;", 18);
        fault("flight 1;lock 0 0 0020;", 18);
        // three figures are a fault where no number may stand, too, at the first of them
        fault("000 flight 1;", 0);
        fault("flight 1 000;", 9);
        fault("flight 1; 001;", 10);
        // 2147483648 and 4294967297 would be 1 and less if their numbers were told by wrapping round
        fault("flight 4294967297;", 7);
        fault("flight 1;lock 0 0 4294967297;", 18);
        // two numbers without a blank are one
        fault("flight 1;lock 00 1;", 18);
        fault("flight 1;lock 51 20;", 14);
        fault("flight 1;lock 5 120;", 16);
        fault("flight -1;", 7);
        fault("flight +1;", 7);
        fault("flight 1.0;", 8);
    }

    private static void wordsThatAreNone() {
        for (String word : List.of("f", "a", "z", "fligh", "flights", "flightt", "fliight", "flightflight", "flightlock",
            "plain")) {
            fault(word + " 1;", 0);
            fault("flight 1;" + word + " 0 0 1;", 9);
        }
        for (String word : List.of("l", "loc", "locks", "lockk", "locklock", "lockflight", "look", "rusty")) {
            fault("flight 1;" + word + " 0 0 1;", 9);
        }
        fault("lightf 1;", 0);
        fault("slight 1;", 0);
        fault("flighu 1;", 0);
        fault("flight 1;mock 0 0 1;", 9);
        fault("flight 1;locl 0 0 1;", 9);
        fault("Flight 1;", 0);
        // the letters ahead of T are a word that is none; behind a whole word T begins no token
        fault("flighT 1;", 0);
        fault("flightT 1;", 6);
        fault("flight 1;Lock 0 0 1;", 9);
        // a KIND is told as its number
        fault("flight 1;lock plain 0 1;", 14);
        fault("flight five;", 7);
    }

    private static void blanks() {
        items("flight1;lock0 0 1;lock0 0 1;", 3);
        items("   flight   1   ;   lock   0   0   1   ;   ", 2);
        items("flight 1 ; lock 0 0 1 ;", 2);
        items("flight1;", 1);
        items(" flight1;", 1);
        items("flight1; ", 1);
        fault("fl ight 1;", 0);
        fault("flight 1;lo ck 0 0 1;", 9);
        // two numbers where one may stand
        fault("flight 0 9;", 9);
        fault("flight 1;lock 0 0 2 0;", 20);
        // nothing but 32 is a blank
        for (int c : new int[] {0, 9, 10, 11, 12, 13, 31, 33, 127}) {
            fault("flight" + (char) c + "1;", 6);
            fault((char) c + "flight 1;", 0);
            fault("flight 1;" + (char) c, 9);
        }
    }

    /** A text cut where a new token begins, and the one byte that comes behind. */
    private static void whichByteMayStandWhere() {
        String[] cut = {"", "flight ", "flight 1 ", "flight 1;", "flight 1;lock ", "flight 1;lock 0 ",
            "flight 1;lock 0 1 ", "flight 1;lock 0 1 2 ", "flight 1;lock 0 1 2;"};
        String[] good = {"", "0123456789", ";", "", "012345", "01", "123456789", ";", ""};
        int[] items = {0, 0, 1, 1, 0, 0, 0, 2, 2};
        for (int i = 0; i < cut.length; i++) {
            for (int c = 0; c <= 127; c++) {
                boolean stands = c == ' ' || good[i].indexOf(c) >= 0;
                boolean whole = items[i] > 0 && stands && (c == ';' || cut[i].endsWith(";"));
                int place = stands ? cut[i].length() + 1 : cut[i].length();
                Check.due("'" + cut[i] + "' and byte " + c, typed(cut[i] + (char) c).read(), whole ? items[i] : -10 - place);
            }
        }
    }

    private static void flightOnceAndFirst() {
        fault("flight 1;flight 1;", 9);
        fault("flight 1;lock 0 0 1;flight 1;", 20);
        fault("flight 1;lock 0 0 1;flight", 20);
        fault("flight flight 1;", 7);
        fault("flight 1 flight;", 9);
        fault("lock 0 0 1;", 0);
        fault("lock 0 0 1;flight 1;", 0);
        fault(" lock", 1);
        fault(";", 0);
        fault(" ;flight 1;", 1);
        fault("1;", 0);
        fault("flight 1;lock lock 0 0 1;", 14);
        fault("flight 1;lock 0 0 1;;", 20);
        fault("flight 1;lock;", 13);
        fault("flight 1;lock 0;", 15);
        fault("flight 1;lock 0 1;", 17);
        fault("flight;", 6);
        fault("flight 1;0 0 1;", 9);
    }

    private static void ninthLock() {
        String eight = "flight 1;" + BLANK_LOCK.repeat(8);
        items("flight 1;" + BLANK_LOCK.repeat(7), 8);
        items(eight, 9);
        fault(eight + BLANK_LOCK, 97);
        fault(eight + "   lock", 100);
        fault(eight + "lock 9", 97);
        fault(eight + "loc", 97);
        fault(eight + "lockx", 97);
        fault(eight + ";", 97);
        items(eight + "   ", 9);
    }

    /** A fault behind a good start: nothing of the start is taken. */
    private static void faultLeavesAll() {
        for (String bad : List.of("x", ";lock 1 1", ";lock 1 1 1; lock 2 1 2; ;", "; lock 5 0 21;")) {
            LockFlight x = Scenes.MIDDLING.make();
            LockFlight like = Scenes.MIDDLING.make();
            Check.type(x, bad);
            Check.type(like, bad);
            Check.due("a fault", x.read() <= -10 ? 1 : 0, 1);
            Check.same("STATUS stays", Look.refusals(x), Look.refusals(like));
            Check.same("all stays", Look.into(x), Look.into(like));
        }
    }

    private static void readTakesThePlaceOfAll() {
        LockFlight x = Scenes.FULL.make();
        x.count(7);
        long above = x.part(0);
        long below = x.part(1);
        Check.due("read", x.read(), 2);
        int[] counts = {1, 3, 0, 0, 0, 0, 150};
        for (int what = 0; what < counts.length; what++) {
            Check.due("count(" + what + ")", x.count(what), counts[what]);
        }
        Check.due("KIND", x.of(0, 0), 4);
        Check.due("STANDS", x.of(0, 1), 0);
        Check.due("ROAD", x.of(0, 2), 19);
        Check.due("lock 1 is gone", x.of(1, 0), -2);
        Check.due("nothing to undo", x.undo(), -3);
        Check.due("all leads fit again", x.leads(0, 1, 0), 1022);
        Check.due("THE FRACTION above stays", x.part(0), above);
        Check.due("THE FRACTION below stays", x.part(1), below);
        Check.due("STATUS stays", x.status(0), 2);
        Check.due("IMAGE 1 stays", x.from(1), 1);
        Check.due("its STRENGTH", x.count(1), 9);
        Check.due("IMAGE 0 stays", x.from(0), 1);
        Check.due("its LOCKS", x.count(0), 8);
        Check.due("its READINGS", x.count(4), 6);
        Check.due("what may be undone in it", x.count(5), 8);
        Check.due("read again, over the image", x.read(), 2);
        Check.due("a flight without locks", typed("flight 0;").read(), 1);
    }

    private static void textIsKeptAndGrows() {
        LockFlight x = typed("flight 2;");
        Check.due("read", x.read(), 1);
        Check.type(x, BLANK_LOCK);
        Check.due("longer", x.read(), 2);
        Check.type(x, "lock 0 0");
        Check.due("fault", x.read(), -38);
        Check.due("the flight before it stays", x.count(0), 1);
        Check.type(x, " 7;");
        Check.due("mended", x.read(), 3);
        x.flight(5);
        x.from(0);
        Check.due("the text is no part of a flight", x.read(), 3);
        Check.due("its bytes", x.count(6), 31);
    }

    private static void clearedBytesAreGone() {
        LockFlight x = typed("flight 2;" + BLANK_LOCK);
        Check.due("clear()", x.clear(), 20);
        Check.due("empty", x.read(), -10);
        Check.type(x, "flight 8");
        Check.due("no ; of the old text is seen", x.read(), -18);
        Check.type(x, ";");
        Check.due("no lock of the old text is seen", x.read(), 1);
        Check.due("STRENGTH", x.count(1), 8);
        goneBehind("flights", "flight", -16);
        goneBehind("flight 12", "flight 1", -18);
        goneBehind("flight 1;locks", "flight 1;lock", -23);
        goneBehind("flight 1;lock 0 0 200", "flight 1;lock 0 0 20", -30);
        goneBehind("flight 1;;", "flight 1;", 1);
    }

    /** A text that is the start of one that was cleared. */
    private static void goneBehind(String old, String text, int answer) {
        LockFlight x = typed(old);
        x.clear();
        Check.type(x, text);
        Check.due("'" + text + "' behind '" + old + "'", x.read(), answer);
    }
}
