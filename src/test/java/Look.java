import java.util.ArrayList;
import java.util.List;

/** All that calls can tell of an object, so that two objects can be compared. */
final class Look {
    private Look() {
    }

    static List<Long> refusals(LockFlight x) {
        return List.of((long) x.status(0), (long) x.status(1), (long) x.status(2));
    }

    /** All but STATUS; the object is used up, as what may be undone is undone, and images and the text are gone on from. */
    static List<Long> into(LockFlight x) {
        List<Long> seen = new ArrayList<>();
        seen.add(x.part(0));
        seen.add(x.part(1));
        nowAndUndone(x, seen);
        for (int image = 0; image < 2; image++) {
            seen.add((long) x.from(image));
            nowAndUndone(x, seen);
        }
        seen.add((long) x.read());
        seen.add(x.digest());
        // what the rest of the text is, if it stopped short of its end
        Check.type(x, ";");
        seen.add((long) x.read());
        seen.add(x.digest());
        return seen;
    }

    private static void nowAndUndone(LockFlight x, List<Long> seen) {
        seen.add(x.digest());
        // 8 at most, and one more that is refused
        for (int i = 0; i < 9; i++) {
            seen.add((long) x.undo());
            seen.add(x.digest());
        }
    }
}
