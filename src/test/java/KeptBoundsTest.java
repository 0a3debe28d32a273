import java.math.BigInteger;
import java.util.List;

/** What is kept, undone, counted: each sentence that names a bound, from both sides of it. */
public final class KeptBoundsTest {
    private static final int PLAIN = 0, STIFF = 1, RUSTY = 3;

    public static void main(String[] args) {
        newObject();
        eightLocks();
        flightIsAsAtFirst();
        strengthIsNoStep();
        eightSteps();
        stepsWithoutLocks();
        stepsWrapRound();
        undoneStepsAreGone();
        lockLeavesNothingToUndo();
        refusedCallsAreNoSteps();
        undoLeavesTheRest();
        imagesApart();
        imageOfNothing();
        imageOfAll();
        imageKeepsItsSteps();
        imageIsNotWhatIsNow();
        countsAtTheirEnds();
        digestOfNothing();
        digestWrapsRound();
        lastCallOfAnObject();
        refusedToTheLastCall();
        Check.end();
    }

    private static void counts(LockFlight x, String told, int... want) {
        for (int what = 0; what < want.length; what++) {
            Check.due(told + ", count(" + what + ")", x.count(what), want[what]);
        }
    }

    private static void newObject() {
        LockFlight x = new LockFlight();
        counts(x, "new", 0, 5, 0, 0, 0, 0, 0);
        Check.due("above", x.part(0), 0);
        Check.due("below", x.part(1), 1);
        Check.same("STATUS", Look.refusals(x), List.of(0L, 0L, 0L));
        Check.due("nothing to undo", x.undo(), -3);
        Check.due("no image 0", x.from(0), -3);
        Check.due("no image 1", x.from(1), -3);
        Check.due("no text", x.read(), -10);
        Check.due("first lock", x.lock(PLAIN, 0, 1), 0);
        LockFlight other = new LockFlight();
        counts(other, "another one", 0, 5, 0, 0, 0, 0, 0);
    }

    private static void eightLocks() {
        LockFlight x = new LockFlight();
        for (int i = 0; i < 8; i++) {
            Check.due("no lock " + i, x.turn(i), -2);
            Check.due("lock " + i, x.lock(i % 6, i % 2, 20 - i), i);
            Check.due("turn " + i, x.turn(i), 1 - i % 2);
            Check.due("turn back " + i, x.turn(i), i % 2);
        }
        Check.due("9th", x.lock(PLAIN, 0, 1), -4);
        Check.due("9th again", x.lock(PLAIN, 1, 20), -4);
        Check.due("FULL", x.status(2), 2);
        for (int i = 0; i < 8; i++) {
            Check.due("KIND", x.of(i, 0), i % 6);
            Check.due("STANDS", x.of(i, 1), i % 2);
            Check.due("ROAD", x.of(i, 2), 20 - i);
        }
        Check.due("flight makes room", x.flight(5), 8);
        Check.due("first again", x.lock(PLAIN, 0, 1), 0);
    }

    private static void flightIsAsAtFirst() {
        for (int strength : new int[] {0, 9}) {
            LockFlight x = Scenes.FULL.make();
            long above = x.part(0);
            long below = x.part(1);
            Check.due("flight", x.flight(strength), 8);
            counts(x, "flight", 0, strength, 0, 0, 0, 0, 150);
            Check.due("nothing to undo", x.undo(), -3);
            Check.due("above stays", x.part(0), above);
            Check.due("below stays", x.part(1), below);
            Check.due("flight again", x.flight(5), 0);
            Check.due("a lock stands as told", x.lock(PLAIN, 0, 1), 0);
            Check.due("low", x.of(0, 1), 0);
            Check.due("the text stays", x.read(), 2);
            Check.due("image 0 stays", x.from(0), 1);
            counts(x, "image 0", 8, 9);
            Check.due("image 1 stays", x.from(1), 1);
            counts(x, "image 1", 1, 9);
        }
    }

    private static void strengthIsNoStep() {
        LockFlight x = Check.flight(5, Check.lock(STIFF, 1, 1));
        Check.due("0", x.strength(0), 5);
        Check.due("9", x.strength(9), 0);
        Check.due("10", x.strength(10), -2);
        Check.due("-1", x.strength(-1), -2);
        Check.due("nothing to undo", x.undo(), -3);
        x.run(0, 0, 1, 0);
        Check.due("4", x.strength(4), 9);
        Check.due("undo", x.undo(), 0);
        Check.due("it stays 4", x.count(1), 4);
        Check.due("as it was", x.strength(4), 4);
    }

    private static void eightSteps() {
        for (int steps = 7; steps <= 9; steps++) {
            LockFlight x = Check.flight(5, Check.lock(PLAIN, 0, 1));
            for (int i = 0; i < steps; i++) {
                // the lock stands right each time: 6 minutes
                x.run(i % 2, 0, 1, 0);
            }
            Check.due("may be undone of " + steps, x.count(5), Math.min(8, steps));
            for (int i = steps - 1; i >= Math.max(0, steps - 8); i--) {
                Check.due("undo to " + i, x.undo(), 6 * i);
                Check.due("STANDS", x.of(0, 1), i % 2);
                Check.due("WATER", x.count(3), i);
            }
            Check.due("no more", x.undo(), -3);
            Check.due("TIME", x.count(2), steps == 9 ? 6 : 0);
        }
    }

    private static void stepsWithoutLocks() {
        LockFlight x = new LockFlight();
        for (int i = 1; i <= 9; i++) {
            Check.due("run", x.run(0, 0, 1, 0), 0);
            Check.due("may be undone", x.count(5), Math.min(i, 8));
        }
        for (int i = 7; i >= 0; i--) {
            Check.due("undo", x.undo(), 0);
            Check.due("may be undone", x.count(5), i);
        }
        Check.due("no more", x.undo(), -3);
    }

    /** Far more steps than are kept: the last 8 come back in their order. */
    private static void stepsWrapRound() {
        LockFlight x = Check.flight(5, Check.lock(PLAIN, 0, 1), Check.lock(PLAIN, 0, 1), Check.lock(PLAIN, 0, 1));
        for (int i = 0; i < 100; i++) {
            x.turn(i % 3);
        }
        for (int i = 99; i >= 92; i--) {
            Check.due("undo", x.undo(), 0);
            for (int lock = 0; lock < 3; lock++) {
                // how often it was turned by the steps 0 .. i - 1
                Check.due("step " + i + ", lock " + lock, x.of(lock, 1), (i + 2 - lock) / 3 % 2);
            }
        }
        Check.due("no more", x.undo(), -3);
    }

    private static void undoneStepsAreGone() {
        LockFlight x = Check.flight(5, Check.lock(PLAIN, 0, 1));
        x.run(0, 0, 1, 0);
        x.run(1, 0, 1, 0);
        Check.due("undo the second", x.undo(), 6);
        Check.due("another one", x.run(0, 0, 1, 1), 12);
        Check.due("undo it", x.undo(), 6);
        Check.due("undo the first", x.undo(), 0);
        Check.due("no more", x.undo(), -3);
        Check.due("a run behind it", x.run(0, 0, 1, 0), 6);
        Check.due("one may be undone", x.count(5), 1);
    }

    private static void lockLeavesNothingToUndo() {
        LockFlight x = Check.flight(5, Check.lock(PLAIN, 0, 1));
        x.run(0, 0, 1, 0);
        x.turn(0);
        Check.due("two", x.count(5), 2);
        Check.due("lock", x.lock(PLAIN, 1, 1), 1);
        Check.due("none", x.count(5), 0);
        Check.due("undo", x.undo(), -3);
        counts(x, "all else stays", 2, 5, 6, 1);
        Check.due("lock 0 stays low", x.of(0, 1), 0);
        Check.due("turn", x.turn(1), 0);
        Check.due("undo the turn alone", x.undo(), 6);
        Check.due("undo", x.undo(), -3);
        x.run(0, 0, 1, 0);
        Check.due("a lock behind a run up", x.lock(PLAIN, 0, 1), 2);
        Check.due("it stands as told", x.of(2, 1), 0);
        Check.due("the others are high", x.of(0, 1) + x.of(1, 1), 2);
    }

    private static void refusedCallsAreNoSteps() {
        LockFlight x = Scenes.FULL.make();
        x.undo();
        x.turn(8);
        x.run(2, 0, 1, 0);
        x.lock(PLAIN, 0, 1);
        x.lock(6, 0, 1);
        x.flight(10);
        Check.due("seven may be undone", x.count(5), 7);
        x.takes(0, 0, 1, 0, 0);
        x.hire(0, 2, 9, 3, 0);
        x.share(1, 2, 9, 60);
        x.drawn(1, 30, 0, 1);
        x.strength(3);
        x.forget();
        x.reading(0, 0);
        x.clear();
        x.read();
        Check.due("nor are those that turn no lock", x.count(5), 7);
    }

    private static void undoLeavesTheRest() {
        LockFlight x = Check.flight(5, Check.lock(PLAIN, 1, 1));
        x.run(0, 0, 1, 0);
        x.strength(8);
        x.reading(0, 4);
        x.drawn(0, 1, 0, 1);
        Check.type(x, "ab");
        x.image(1);
        x.turn(5);
        Check.due("undo", x.undo(), 0);
        counts(x, "undone", 1, 8, 0, 0, 1, 0, 2);
        Check.due("THE FRACTION", x.part(0), 6);
        Check.due("STATUS", x.status(0), 1);
        Check.due("the image", x.from(1), 1);
        counts(x, "the image", 1, 8, 10, 2, 1, 1, 2);
    }

    private static void imagesApart() {
        LockFlight x = new LockFlight();
        Check.due("image(1)", x.image(1), 1);
        Check.due("image 0 is none", x.from(0), -3);
        x.lock(PLAIN, 0, 1);
        Check.due("image(0)", x.image(0), 1);
        x.lock(PLAIN, 0, 1);
        Check.due("from(1)", x.from(1), 1);
        Check.due("no locks in it", x.count(0), 0);
        Check.due("from(0)", x.from(0), 1);
        Check.due("one in it", x.count(0), 1);
        x.lock(STIFF, 1, 2);
        Check.due("image(1) over the old one", x.image(1), 1);
        x.flight(0);
        Check.due("from(1)", x.from(1), 1);
        Check.due("two in it", x.count(0), 2);
        Check.due("from(0) is as it was", x.from(0), 1);
        Check.due("one in it", x.count(0), 1);
        Check.due("image(2)", x.image(2), -2);
        Check.due("image(-1)", x.image(-1), -2);
        Check.due("from(2)", x.from(2), -2);
        Check.due("from(-1)", x.from(-1), -2);
    }

    private static void imageOfNothing() {
        LockFlight x = new LockFlight();
        x.image(0);
        for (int i = 0; i < 8; i++) {
            x.lock(PLAIN, 1, 20);
        }
        x.run(0, 0, 1, 0);
        x.reading(7, 999);
        x.strength(0);
        Check.due("from(0)", x.from(0), 1);
        counts(x, "as new", 0, 5, 0, 0, 0, 0, 0);
        Check.due("nothing to undo", x.undo(), -3);
        Check.due("a lock stands as told", x.lock(PLAIN, 0, 1), 0);
        Check.due("low", x.of(0, 1), 0);
    }

    private static void imageOfAll() {
        LockFlight x = Scenes.FULL.make();
        LockFlight like = Scenes.FULL.make();
        x.image(1);
        like.image(1);
        x.flight(0);
        x.lock(PLAIN, 0, 1);
        x.run(0, 0, 1, 0);
        x.reading(0, 5);
        Check.due("from(1)", x.from(1), 1);
        Check.same("all of it", Look.into(x), Look.into(like));
    }

    /** What may be undone in an image stays, though it be undone, dropped or added to outside. */
    private static void imageKeepsItsSteps() {
        LockFlight x = Check.flight(5, Check.lock(PLAIN, 0, 1));
        for (int i = 0; i < 8; i++) {
            x.run(i % 2, 0, 1, 0);
        }
        x.image(0);
        for (int i = 0; i < 20; i++) {
            x.turn(0);
        }
        x.lock(PLAIN, 0, 1);
        for (int time = 0; time < 2; time++) {
            Check.due("from(0)", x.from(0), 1);
            Check.due("eight", x.count(5), 8);
            for (int i = 7; i >= 0; i--) {
                Check.due("undo to " + i, x.undo(), 6 * i);
            }
            Check.due("no more", x.undo(), -3);
        }
        x.image(1);
        x.from(0);
        x.from(1);
        Check.due("none in an image of none", x.undo(), -3);
    }

    private static void imageIsNotWhatIsNow() {
        LockFlight x = Scenes.MIDDLING.make();
        int time = x.count(2);
        int water = x.count(3);
        x.image(1);
        x.type('x');
        x.drawn(3, 1, 0, 1);
        long above = x.part(0);
        long below = x.part(1);
        x.turn(9);
        x.undo();
        x.from(1);
        Check.due("THE TEXT is of now", x.count(6), 21);
        Check.due("above is of now", x.part(0), above);
        Check.due("below is of now", x.part(1), below);
        Check.due("STATUS is of now", x.status(0), 1);
        Check.due("from is no step", x.count(5), 3);
        x.strength(1);
        x.run(0, 0, 1, 0);
        x.reading(0, 1);
        x.from(1);
        counts(x, "what is done behind from is not in it", 3, 4, time, water, 2, 3, 21);
    }

    private static void countsAtTheirEnds() {
        LockFlight x = Scenes.FULL.make();
        counts(x, "full", 8, 9, x.count(2), x.count(3), 6, 8, 150);
        Check.due("count(7)", x.count(7), -2);
        Check.due("count(-1)", x.count(-1), -2);
        Check.due("part(2)", x.part(2), -2);
        Check.due("part(-1)", x.part(-1), -2);
        Check.due("status(3)", x.status(3), -1);
        Check.due("status(-1)", x.status(-1), -1);
        Check.due("BAD", x.status(0), 6);
    }

    private static long folded(LockFlight x, int... more) {
        BigInteger h = BigInteger.valueOf(953);
        for (int what = 0; what <= 6; what++) {
            h = h.multiply(BigInteger.valueOf(31)).add(BigInteger.valueOf(x.count(what)));
        }
        for (int lock = 0; lock < x.count(0); lock++) {
            for (int what = 0; what < 3; what++) {
                h = h.multiply(BigInteger.valueOf(31)).add(BigInteger.valueOf(x.of(lock, what)));
            }
        }
        for (int v : more) {
            h = h.multiply(BigInteger.valueOf(31)).add(BigInteger.valueOf(v));
        }
        for (int what = 0; what < 2; what++) {
            h = h.multiply(BigInteger.valueOf(31)).add(BigInteger.valueOf(x.part(what)));
        }
        return h.longValue();
    }

    private static void digestOfNothing() {
        LockFlight x = new LockFlight();
        // 953, then 0, 5, 0, 0, 0, 0, 0, 0, 1
        long h = 953L * 31 * 31 + 5;
        for (int i = 0; i < 7; i++) {
            h = 31 * h + (i == 6 ? 1 : 0);
        }
        Check.due("digest", x.digest(), h);
        x.status(9);
        x.image(0);
        Check.due("STATUS, IMAGES are not in it", x.digest(), h);
        x.type(0);
        Check.due("how many bytes is", x.digest() == h ? 1 : 0, 0);
    }

    /** So many values that a long wraps round; forgotten READINGS are not among them. */
    private static void digestWrapsRound() {
        LockFlight x = Scenes.FULL.make();
        Check.due("full", x.digest(), folded(x, 7, 999, 6, 998, 5, 997, 4, 996, 3, 995, 2, 994));
        x.forget();
        Check.due("without READINGS", x.digest(), folded(x));
        x.reading(1, 3);
        Check.due("with one", x.digest(), folded(x, 1, 3));
        x.flight(5);
        Check.due("without LOCKS", x.digest(), folded(x));
    }

    /** An object is used for 512 calls: the last one still tells the truth of all those ahead of it. */
    private static void lastCallOfAnObject() {
        LockFlight x = Way.flight(0, 4, Way.places(8, RUSTY, Way.WRONG, 20));
        int calls = 9;
        for (; calls < 510; calls++) {
            // up behind up, so that none ever stands right: 8 times 8 + 9 + 2, 7 times 20 on the way
            Check.due("run", x.run(0, 0, 1, 1), 292);
        }
        Check.due("TIME, 511th call", x.count(2), 292 * (calls - 9));
        Check.due("WATER, 512th call", x.count(3), 16 * (calls - 9));
    }

    private static void refusedToTheLastCall() {
        LockFlight bad = new LockFlight();
        LockFlight no = new LockFlight();
        LockFlight full = Way.flight(0, 4, Way.places(8, RUSTY, Way.WRONG, 20));
        for (int i = 0; i < 511; i++) {
            bad.flight(-1);
            no.undo();
        }
        for (int i = 9; i < 511; i++) {
            full.lock(PLAIN, 0, 1);
        }
        Check.due("BAD, 512th call", bad.status(0), 511);
        Check.due("NO, 512th call", no.status(1), 511);
        Check.due("FULL, 512th call", full.status(2), 502);
    }
}
