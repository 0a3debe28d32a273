import java.util.Random;

/** Random runs of calls that change something, against the twin; texts whole, cut and spoilt among them. */
public final class TwinTest {
    private static final Random RANDOM = new Random(77);
    // an object is used for 512 calls at most, of which a text may take 225
    private static final int LAST_TO_BEGIN = 280;
    // a fraction drawn, its two parts, the digest
    private static final int MOST_CALLS = 4;

    public static void main(String[] args) {
        for (int i = 0; i < 3000; i++) {
            oneObject();
        }
        Check.end();
    }

    private static void oneObject() {
        LockFlight x = new LockFlight();
        Twin twin = new Twin();
        for (int calls = 0; calls < LAST_TO_BEGIN; calls += MOST_CALLS) {
            if (RANDOM.nextInt(14) == 0) {
                calls += text(x, twin);
            } else {
                oneCall(x, twin);
            }
            Check.due("digest", x.digest(), twin.digest());
        }
        for (int what = 0; what < 3; what++) {
            Check.due("status(" + what + ")", x.status(what), twin.status(what));
        }
    }

    /** Mostly a number as told, now and then one beside it. */
    private static int near(int least, int most) {
        return RANDOM.nextInt(12) == 0 ? (RANDOM.nextBoolean() ? least - 1 : most + 1)
            : least + RANDOM.nextInt(most - least + 1);
    }

    private static void oneCall(LockFlight x, Twin twin) {
        int a = near(0, 1);
        int b = near(0, 2);
        int c = near(1, 9);
        int d = near(0, 1);
        int place = near(0, 7);
        switch (RANDOM.nextInt(26)) {
            case 0: Check.due("flight", x.flight(c), twin.flight(c)); break;
            case 1: case 2: case 3: case 4:
                int kind = near(0, 5);
                int road = near(1, 20);
                Check.due("lock", x.lock(kind, a, road), twin.lock(kind, a, road));
                break;
            case 5: Check.due("strength", x.strength(c), twin.strength(c)); break;
            case 6: case 7: case 8: Check.due("turn", x.turn(place), twin.turn(place)); break;
            case 9: case 10: case 11: case 12:
                Check.due("run", x.run(a, b, c, d), twin.run(a, b, c, d));
                break;
            case 13: case 14: case 15: Check.due("undo", x.undo(), twin.undo()); break;
            case 16: case 17: case 18:
                int minute = near(0, 999);
                Check.due("reading", x.reading(place, minute), twin.reading(place, minute));
                break;
            case 19: Check.due("forget", x.forget(), twin.forget()); break;
            case 20: Check.due("image", x.image(a), twin.image(a)); break;
            case 21: Check.due("from", x.from(a), twin.from(a)); break;
            case 22: Check.due("clear", x.clear(), twin.clear()); break;
            case 23: Check.due("status", x.status(b), twin.status(b)); break;
            case 24:
                if (x.drawn(5, 7, 1, 2) == 1) {
                    twin.heardFraction(x.part(0), x.part(1));
                }
                break;
            default:
                if (x.takes(a, b, c, d, 0) == -2) {
                    twin.heardRefusal();
                }
        }
    }

    /** How many calls it took. */
    private static int text(LockFlight x, Twin twin) {
        StringBuilder text = new StringBuilder(blanks(0) + "flight" + blanks(0) + number(9) + blanks(0) + ";");
        int locks = RANDOM.nextInt(10);
        for (int i = 0; i < locks; i++) {
            text.append(blanks(0)).append("lock").append(blanks(0)).append(number(5)).append(blanks(1))
                .append(number(1)).append(blanks(1)).append(1 + RANDOM.nextInt(20)).append(blanks(0)).append(";");
        }
        spoil(text);
        Check.due("clear", x.clear(), twin.clear());
        for (int i = 0; i < text.length(); i++) {
            Check.due("type", x.type(text.charAt(i)), twin.type(text.charAt(i)));
        }
        Check.due("read '" + text + "'", x.read(), twin.read());
        return 2 + text.length();
    }

    private static String blanks(int least) {
        return " ".repeat(least + (RANDOM.nextInt(4) == 0 ? RANDOM.nextInt(3) : 0));
    }

    private static String number(int most) {
        return (RANDOM.nextInt(8) == 0 ? "0" : "") + RANDOM.nextInt(most + 1);
    }

    private static void spoil(StringBuilder text) {
        int at = RANDOM.nextInt(text.length());
        String bytes = "flightock;; 0123459AZ`{/:" + (char) 127 + (char) 0 + '\n';
        char c = bytes.charAt(RANDOM.nextInt(bytes.length()));
        switch (RANDOM.nextInt(6)) {
            case 0: text.setLength(at); break;
            case 1: text.setCharAt(at, c); break;
            case 2: text.insert(at, c); break;
            case 3: text.deleteCharAt(at); break;
            default:
        }
    }
}
