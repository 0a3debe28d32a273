/** Promises 26 to 31: part, image, from, status, count, digest. */
public final class StateTest {
    public static void main(String[] args) {
        part();
        images();
        imagesKeepUndo();
        status();
        count();
        digest();
        Check.end();
    }

    private static void part() {
        LockFlight x = new LockFlight();
        Check.due("part(-1)", x.part(-1), -2);
        Check.due("part(2)", x.part(2), -2);
        Check.due("status(0)", x.status(0), 2);
        x.lock(0, 0, 1);
        x.drawn(12, 4, 0, 1);
        // 6 or 10 minutes each: lowest terms below a fourth
        Check.due("lowest terms", x.part(0) % 2 == 0 && x.part(1) % 2 == 0 ? 1 : 0, 0);
    }

    private static void images() {
        LockFlight x = Check.flight(3, Check.lock(2, 1, 4));
        Check.due("image(-1)", x.image(-1), -2);
        Check.due("image(2)", x.image(2), -2);
        Check.due("from(-1)", x.from(-1), -2);
        Check.due("from(2)", x.from(2), -2);
        Check.due("from(0), none", x.from(0), -3);
        x.reading(0, 12);
        Check.type(x, "ab");
        Check.due("image(0)", x.image(0), 1);
        Check.due("from(1), none", x.from(1), -3);
        long kept = x.digest();
        x.run(0, 0, 1, 0);
        x.lock(1, 0, 2);
        x.strength(8);
        x.forget();
        x.reading(1, 5);
        x.reading(0, 6);
        Check.due("image(1)", x.image(1), 1);
        long second = x.digest();
        Check.due("from(0)", x.from(0), 1);
        Check.due("as it was kept", x.digest(), kept);
        x.flight(1);
        Check.due("from(1)", x.from(1), 1);
        Check.due("as the second was kept", x.digest(), second);
        Check.due("from(0) again", x.from(0), 1);
        Check.due("as it was kept, still", x.digest(), kept);
        x.type(99);
        x.drawn(1, 3, 0, 1);
        x.status(9);
        long above = x.part(0);
        x.from(1);
        Check.due("THE TEXT is not kept", x.count(6), 3);
        Check.due("THE FRACTION is not kept", x.part(0), above);
        Check.due("STATUS is not kept", x.status(0), 5);
        x.turn(0);
        x.image(0);
        x.from(0);
        Check.due("an image is overwritten", x.count(0), 2);
    }

    private static void imagesKeepUndo() {
        LockFlight x = Check.flight(5, Check.lock(0, 1, 4));
        x.run(0, 0, 1, 0);
        x.turn(0);
        x.image(1);
        Check.due("count(5)", x.count(5), 2);
        x.lock(0, 0, 1);
        x.lock(0, 0, 1);
        x.turn(2);
        x.turn(1);
        x.turn(0);
        x.from(1);
        Check.due("count(5) behind from", x.count(5), 2);
        Check.due("undo the turn", x.undo(), 10);
        Check.due("of(0, 1)", x.of(0, 1), 1);
        Check.due("undo the run", x.undo(), 0);
        Check.due("no more", x.undo(), -3);
        Check.due("from keeps the image", x.from(1), 1);
        Check.due("and what may be undone in it", x.undo(), 10);
    }

    private static void status() {
        LockFlight x = new LockFlight();
        x.flight(-1);
        x.worth(3, 3);
        x.share(3, 3, 3, 3);
        x.undo();
        x.from(0);
        Check.due("BAD", x.status(0), 3);
        Check.due("NO", x.status(1), 2);
        Check.due("FULL", x.status(2), 0);
        Check.due("status(3)", x.status(3), -1);
        Check.due("status(-1)", x.status(-1), -1);
        Check.due("they count as BAD", x.status(0), 5);
        for (int i = 0; i < 10; i++) {
            x.lock(0, 0, 1);
        }
        Check.due("FULL twice", x.status(2), 2);
        x.at(0, 0, 1, 0, 0, 3);
        Check.due("NONE is no refusal", x.status(0) + x.status(1) + x.status(2), 9);
        x.flight(5);
        Check.due("flight leaves STATUS", x.status(0), 5);
    }

    private static void count() {
        LockFlight x = Check.flight(7, Check.lock(0, 1, 4), Check.lock(0, 0, 4));
        x.run(0, 0, 1, 0);
        x.run(0, 0, 1, 0);
        x.turn(0);
        x.reading(1, 4);
        Check.type(x, "abcd");
        // first 10 + 4 + 6 with 3 of water, then 10 + 4 + 10 with 4
        int[] want = {2, 7, 44, 7, 1, 3, 4};
        for (int what = 0; what < want.length; what++) {
            Check.due("count(" + what + ")", x.count(what), want[what]);
        }
        Check.due("count(-1)", x.count(-1), -2);
        Check.due("count(7)", x.count(7), -2);
        Check.due("status(0)", x.status(0), 2);
    }

    private static long fold(long... values) {
        long h = 953;
        for (long v : values) {
            h = 31 * h + v;
        }
        return h;
    }

    private static void digest() {
        LockFlight x = new LockFlight();
        Check.due("new digest", x.digest(), fold(0, 5, 0, 0, 0, 0, 0, 0, 1));
        x.lock(3, 1, 4);
        x.lock(2, 0, 9);
        x.reading(1, 17);
        x.reading(0, 998);
        x.turn(1);
        x.run(0, 0, 1, 0);
        x.drawn(0, 2, 0, 1);
        x.type(65);
        // run: 4 + 8 + 4 + 4 + 6; drawn: 18 and low, low
        Check.due("TIME", x.count(2), 26);
        Check.due("digest", x.digest(), fold(2, 5, 26, 4, 2, 2, 1, 3, 1, 4, 2, 1, 9, 1, 17, 0, 998,
            x.part(0), x.part(1)));
        x.status(8);
        long before = x.digest();
        Check.due("digest changes nothing", x.digest(), before);
        Check.due("STATUS is not in it", before, fold(2, 5, 26, 4, 2, 2, 1, 3, 1, 4, 2, 1, 9, 1, 17, 0, 998,
            x.part(0), x.part(1)));
    }
}
