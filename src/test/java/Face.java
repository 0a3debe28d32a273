import java.util.Arrays;
import java.util.List;

/** Every call of the face, with the bounds of its numbers in a flight of so many locks. */
final class Face {
    interface Asker {
        long ask(LockFlight x, int[] n);
    }

    /** Usual numbers are as told; bad is what is answered where one is not; asks: it never changes anything. */
    record Call(String name, int bad, boolean asks, int[] usual, int[][] bounds, Asker asker) {
        long ask(LockFlight x, int... n) {
            return asker.ask(x, n);
        }

        String told(int... n) {
            return name + Arrays.toString(n).replace('[', '(').replace(']', ')');
        }

        /** The usual numbers with another one at a place. */
        int[] with(int place, int number) {
            int[] numbers = usual.clone();
            numbers[place] = number;
            return numbers;
        }

        boolean hasNoGoodNumbers() {
            return Arrays.stream(bounds).anyMatch(bound -> bound[0] > bound[1]);
        }
    }

    private static final int[] DOWN = {0, 1}, AHEAD = {0, 2}, SOMEBODY = {1, 2}, LEAD = {1, 9}, SHUT = {0, 1};
    private static final int[] STRENGTH = {0, 9}, MINUTE = {0, 999}, HOUR = {0, 60}, TWO = {0, 1};

    private Face() {
    }

    static List<Call> calls(int locks) {
        int[] place = {0, locks - 1};
        return List.of(
            changing("flight", (x, n) -> x.flight(n[0]), STRENGTH),
            changing("lock", (x, n) -> x.lock(n[0], n[1], n[2]), new int[] {0, 5}, TWO, new int[] {1, 20}),
            changing("strength", (x, n) -> x.strength(n[0]), STRENGTH),
            changing("turn", (x, n) -> x.turn(n[0]), place),
            changing("type", (x, n) -> x.type(n[0]), new int[] {0, 127}),
            changing("clear", (x, n) -> x.clear()),
            changing("read", (x, n) -> x.read()),
            changing("run", (x, n) -> x.run(n[0], n[1], n[2], n[3]), DOWN, AHEAD, LEAD, SHUT),
            changing("undo", (x, n) -> x.undo()),
            asking("of", -2, (x, n) -> x.of(n[0], n[1]), place, new int[] {0, 5}),
            asking("takes", -2, (x, n) -> x.takes(n[0], n[1], n[2], n[3], n[4]), DOWN, AHEAD, LEAD, SHUT, TWO),
            asking("at", -2, (x, n) -> x.at(n[0], n[1], n[2], n[3], n[4], n[5]),
                DOWN, AHEAD, LEAD, SHUT, place, new int[] {0, 4}),
            asking("lead", -2, (x, n) -> x.lead(n[0], n[1], n[2]), DOWN, SOMEBODY, SHUT),
            asking("worth", -1000, (x, n) -> x.worth(n[0], n[1]), DOWN, SHUT),
            asking("strong", -2, (x, n) -> x.strong(n[0], n[1], n[2], n[3]), DOWN, AHEAD, LEAD, SHUT),
            asking("hire", -2, (x, n) -> x.hire(n[0], n[1], n[2], n[3], n[4]), DOWN, AHEAD, LEAD, new int[] {0, 3}, TWO),
            asking("dark", -2, (x, n) -> x.dark(n[0], n[1], n[2], n[3]), DOWN, AHEAD, LEAD, MINUTE),
            asking("waits", -2, (x, n) -> x.waits(n[0], n[1], n[2], n[3], n[4]), DOWN, AHEAD, LEAD, place, HOUR),
            asking("share", -1000, (x, n) -> x.share(n[0], n[1], n[2], n[3]), DOWN, AHEAD, LEAD, HOUR),
            // left at place 0, missed at the last one: either place may then be any without a above b
            new Call("key", -2, true, new int[] {0, 0, locks - 1}, new int[][] {DOWN, place, place},
                (x, n) -> x.key(n[0], n[1], n[2])),
            changing("reading", (x, n) -> x.reading(n[0], n[1]), place, MINUTE),
            changing("forget", (x, n) -> x.forget()),
            asking("leads", -2, (x, n) -> x.leads(n[0], n[1], n[2]), DOWN, SOMEBODY, SHUT),
            // one run, as none is NO
            new Call("drawn", -2, false, new int[] {0, 1, 0, 1},
                new int[][] {{0, 999999}, {0, 30}, AHEAD, LEAD}, (x, n) -> x.drawn(n[0], n[1], n[2], n[3])),
            asking("part", -2, (x, n) -> x.part(n[0]), TWO),
            changing("image", (x, n) -> x.image(n[0]), TWO),
            changing("from", (x, n) -> x.from(n[0]), TWO),
            asking("status", -1, (x, n) -> x.status(n[0]), new int[] {0, 2}),
            asking("count", -2, (x, n) -> x.count(n[0]), new int[] {0, 6}),
            asking("digest", 0, (x, n) -> x.digest()));
    }

    private static Call changing(String name, Asker asker, int[]... bounds) {
        return new Call(name, -2, false, leastOf(bounds), bounds, asker);
    }

    private static Call asking(String name, int bad, Asker asker, int[]... bounds) {
        return new Call(name, bad, true, leastOf(bounds), bounds, asker);
    }

    private static int[] leastOf(int[][] bounds) {
        return Arrays.stream(bounds).mapToInt(bound -> bound[0]).toArray();
    }
}
