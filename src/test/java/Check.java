import java.util.List;

/** Counts answers that are not as due, and ends a test with exit code 1 if there was one. */
final class Check {
    private static int wrong = 0;

    private Check() {
    }

    static void due(String call, long got, long want) {
        if (got != want) {
            wrong++;
            if (wrong <= 50) {
                System.out.println(call + " answered " + got + ", due is " + want);
            }
        }
    }

    static void same(String call, List<Long> got, List<Long> want) {
        due(call + ": how many", got.size(), want.size());
        for (int i = 0; i < Math.min(got.size(), want.size()); i++) {
            due(call + ": " + i, got.get(i), want.get(i));
        }
    }

    static void type(LockFlight x, String text) {
        for (int i = 0; i < text.length(); i++) {
            x.type(text.charAt(i));
        }
    }

    /** A flight from rows of KIND, STANDS, ROAD. */
    static LockFlight flight(int strength, int[]... locks) {
        LockFlight x = new LockFlight();
        x.flight(strength);
        for (int[] lock : locks) {
            x.lock(lock[0], lock[1], lock[2]);
        }
        return x;
    }

    static int[] lock(int kind, int stands, int road) {
        return new int[] {kind, stands, road};
    }

    static void end() {
        System.out.println(wrong == 0 ? "all answers are as due" : wrong + " answers are not as due");
        if (wrong != 0) {
            System.exit(1);
        }
    }
}
