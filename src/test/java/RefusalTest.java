import java.util.List;
import java.util.function.ToLongFunction;

/** What is refused, as the first of which reason, and that it changes nothing but STATUS. */
public final class RefusalTest {
    public static void main(String[] args) {
        badIsAheadOfFull();
        badIsAheadOfNo();
        badIsAheadOfNone();
        manyReasonsCountOnce();
        eachReasonHasItsCount();
        othersCountAsBad();
        answersBelowZeroAreNoRefusals();
        faultIsNoRefusal();
        refusalsAreKeptThroughAll();
        Check.end();
    }

    private static void refused(String told, Scenes scene, ToLongFunction<LockFlight> call, int answer, int... counts) {
        LockFlight x = scene.make();
        List<Long> before = Look.refusals(x);
        Check.due(told, call.applyAsLong(x), answer);
        for (int what = 0; what < 3; what++) {
            Check.due(told + ", status(" + what + ")", x.status(what), before.get(what) + counts[what]);
        }
        Check.same(told + " changes nothing", Look.into(x), Look.into(scene.make()));
    }

    private static void badIsAheadOfFull() {
        refused("9th lock", Scenes.FULL, x -> x.lock(0, 0, 1), -4, 0, 0, 1);
        refused("9th lock, KIND", Scenes.FULL, x -> x.lock(6, 0, 1), -2, 1, 0, 0);
        refused("9th lock, STANDS", Scenes.FULL, x -> x.lock(5, 2, 20), -2, 1, 0, 0);
        refused("9th lock, ROAD", Scenes.FULL, x -> x.lock(5, 1, 21), -2, 1, 0, 0);
        refused("9th lock, ROAD 0", Scenes.FULL, x -> x.lock(5, 1, 0), -2, 1, 0, 0);
        refused("151st byte", Scenes.FULL, x -> x.type(127), -4, 0, 0, 1);
        refused("151st byte 0", Scenes.FULL, x -> x.type(0), -4, 0, 0, 1);
        refused("151st byte, 128", Scenes.FULL, x -> x.type(128), -2, 1, 0, 0);
        refused("151st byte, -1", Scenes.FULL, x -> x.type(-1), -2, 1, 0, 0);
        refused("7th reading", Scenes.FULL, x -> x.reading(7, 999), -4, 0, 0, 1);
        refused("7th reading, no such place", Scenes.FULL, x -> x.reading(8, 0), -2, 1, 0, 0);
        refused("7th reading, MINUTE", Scenes.FULL, x -> x.reading(0, 1000), -2, 1, 0, 0);
        refused("7th reading, MINUTE below", Scenes.FULL, x -> x.reading(0, -1), -2, 1, 0, 0);
    }

    private static void badIsAheadOfNo() {
        refused("drawn, n 0", Scenes.MIDDLING, x -> x.drawn(0, 0, 0, 1), -3, 0, 1, 0);
        refused("drawn, n 0, greatest", Scenes.MIDDLING, x -> x.drawn(999999, 0, 2, 9), -3, 0, 1, 0);
        refused("drawn, n 0, SEED", Scenes.MIDDLING, x -> x.drawn(1000000, 0, 0, 1), -2, 1, 0, 0);
        refused("drawn, n 0, SEED below", Scenes.MIDDLING, x -> x.drawn(-1, 0, 0, 1), -2, 1, 0, 0);
        refused("drawn, n 0, AHEAD", Scenes.MIDDLING, x -> x.drawn(0, 0, 3, 1), -2, 1, 0, 0);
        refused("drawn, n 0, AHEAD below", Scenes.MIDDLING, x -> x.drawn(0, 0, -1, 1), -2, 1, 0, 0);
        refused("drawn, n 0, LEAD 0", Scenes.MIDDLING, x -> x.drawn(0, 0, 0, 0), -2, 1, 0, 0);
        refused("drawn, n 0, LEAD 10", Scenes.MIDDLING, x -> x.drawn(0, 0, 0, 10), -2, 1, 0, 0);
        refused("drawn, n -1", Scenes.MIDDLING, x -> x.drawn(0, -1, 0, 1), -2, 1, 0, 0);
        refused("drawn, n 0, no locks", Scenes.NEW, x -> x.drawn(0, 0, 0, 1), -3, 0, 1, 0);
        refused("from(0), none kept", Scenes.NEW, x -> x.from(0), -3, 0, 1, 0);
        refused("from(1), none kept", Scenes.MIDDLING, x -> x.from(1), -3, 0, 1, 0);
        refused("from(2), none kept", Scenes.NEW, x -> x.from(2), -2, 1, 0, 0);
        refused("from(-1), none kept", Scenes.NEW, x -> x.from(-1), -2, 1, 0, 0);
        refused("undo, none may be", Scenes.NEW, LockFlight::undo, -3, 0, 1, 0);
    }

    private static void badIsAheadOfNone() {
        refused("DONE of nobody", Scenes.MIDDLING, x -> x.at(0, 0, 1, 0, 0, 3), -1, 0, 0, 0);
        refused("DONE of nobody, no such place", Scenes.MIDDLING, x -> x.at(0, 0, 1, 0, 3, 3), -2, 1, 0, 0);
        refused("DONE of nobody, LEAD 0", Scenes.MIDDLING, x -> x.at(0, 0, 0, 0, 0, 3), -2, 1, 0, 0);
        refused("DONE of nobody, no locks", Scenes.NEW, x -> x.at(0, 0, 1, 0, 0, 3), -2, 1, 0, 0);
    }

    private static void manyReasonsCountOnce() {
        int least = Integer.MIN_VALUE;
        int most = Integer.MAX_VALUE;
        refused("lock, all", Scenes.FULL, x -> x.lock(least, most, least), -2, 1, 0, 0);
        refused("run, all", Scenes.FULL, x -> x.run(most, most, most, most), -2, 1, 0, 0);
        refused("of, all", Scenes.FULL, x -> x.of(most, least), -2, 1, 0, 0);
        refused("takes, all", Scenes.FULL, x -> x.takes(least, least, least, least, least), -2, 1, 0, 0);
        refused("at, all", Scenes.FULL, x -> x.at(most, most, most, most, most, most), -2, 1, 0, 0);
        refused("lead, all", Scenes.FULL, x -> x.lead(most, most, most), -2, 1, 0, 0);
        refused("worth, all", Scenes.FULL, x -> x.worth(least, least), -1000, 1, 0, 0);
        refused("strong, all", Scenes.FULL, x -> x.strong(least, most, most, least), -2, 1, 0, 0);
        refused("hire, all", Scenes.FULL, x -> x.hire(least, least, most, most, most), -2, 1, 0, 0);
        refused("dark, all", Scenes.FULL, x -> x.dark(least, least, most, most), -2, 1, 0, 0);
        refused("waits, all", Scenes.FULL, x -> x.waits(least, least, most, most, most), -2, 1, 0, 0);
        refused("share, all", Scenes.FULL, x -> x.share(least, least, most, most), -1000, 1, 0, 0);
        refused("key, all", Scenes.FULL, x -> x.key(least, most, least), -2, 1, 0, 0);
        refused("reading, all", Scenes.FULL, x -> x.reading(most, least), -2, 1, 0, 0);
        refused("leads, all", Scenes.FULL, x -> x.leads(least, least, least), -2, 1, 0, 0);
        refused("drawn, all", Scenes.FULL, x -> x.drawn(most, most, most, most), -2, 1, 0, 0);
    }

    private static void eachReasonHasItsCount() {
        LockFlight x = Scenes.FULL.make();
        for (int i = 1; i <= 20; i++) {
            x.lock(0, 0, 1);
            x.turn(8);
            x.turn(-1);
            x.drawn(1, 0, 0, 1);
            Check.due("BAD " + i, x.status(0), 2 * i);
            Check.due("NO " + i, x.status(1), i);
            Check.due("FULL " + i, x.status(2), i);
        }
    }

    private static void othersCountAsBad() {
        refused("worth is -1000", Scenes.NEW, x -> x.worth(0, 2), -1000, 1, 0, 0);
        refused("share is -1000", Scenes.NEW, x -> x.share(0, 0, 1, 61), -1000, 1, 0, 0);
        refused("status is -1", Scenes.NEW, x -> x.status(3), -1, 1, 0, 0);
        refused("status below is -1", Scenes.NEW, x -> x.status(-1), -1, 1, 0, 0);
        refused("status of the least", Scenes.FULL, x -> x.status(Integer.MIN_VALUE), -1, 1, 0, 0);
        refused("status of the greatest", Scenes.FULL, x -> x.status(Integer.MAX_VALUE), -1, 1, 0, 0);
        refused("part is long", Scenes.NEW, x -> x.part(2), -2, 1, 0, 0);
    }

    /** Answers that look like BAD, NO, FULL, NONE but are told in earnest. */
    private static void answersBelowZeroAreNoRefusals() {
        LockFlight one = Check.flight(5, Check.lock(0, 1, 1));
        // each for itself: 10, and 10 behind that, or behind x, if later; shared: x and 4 + 9
        int[] earlier = {-1, -2, -3, -3};
        for (int i = 0; i < earlier.length; i++) {
            Check.due("share x " + (8 + i), one.share(0, 1, 1, 8 + i), earlier[i]);
        }
        Check.due("waits", one.waits(0, 1, 1, 0, 5), -1);
        LockFlight slow = Check.flight(4, Check.lock(3, 1, 1), Check.lock(4, 0, 20), Check.lock(0, 0, 1),
            Check.lock(3, 1, 1));
        // on foot k 2: done in 38, in by 54, out in 63; by bicycle k 1: done in 56, out in 65; k 2: leaked, out in 71
        Check.due("on foot", slow.takes(0, 1, 2, 0, 0), 63);
        Check.due("by bicycle", slow.takes(0, 2, 1, 0, 0), 65);
        Check.due("by bicycle, too far ahead", slow.takes(0, 2, 2, 0, 0), 71);
        Check.due("a bicycle is worth", slow.worth(0, 0), -2);
        Check.due("nothing was refused", one.status(0) + one.status(1) + one.status(2), 0);
        Check.due("nothing was refused", slow.status(0) + slow.status(1) + slow.status(2), 0);
    }

    private static void faultIsNoRefusal() {
        refused("a fault", Scenes.MIDDLING, LockFlight::read, -30, 0, 0, 0);
        refused("an empty text", Scenes.NEW, LockFlight::read, -10, 0, 0, 0);
    }

    /** STATUS is in no flight, image, text and run: nothing sets it back. */
    private static void refusalsAreKeptThroughAll() {
        LockFlight x = Scenes.FULL.make();
        x.image(1);
        x.turn(8);
        x.lock(0, 0, 1);
        x.drawn(0, 0, 0, 1);
        List<Long> counts = List.of(1L, 1L, 1L);
        x.undo();
        Check.same("undo leaves STATUS", Look.refusals(x), counts);
        x.from(1);
        Check.same("from leaves STATUS", Look.refusals(x), counts);
        Check.due("the text is read", x.read(), 2);
        Check.same("read leaves STATUS", Look.refusals(x), counts);
        x.flight(5);
        Check.same("flight leaves STATUS", Look.refusals(x), counts);
        x.clear();
        x.forget();
        x.image(0);
        Check.same("clear, forget, image leave STATUS", Look.refusals(x), counts);
    }
}
