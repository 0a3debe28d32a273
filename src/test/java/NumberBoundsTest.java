import java.util.ArrayList;
import java.util.List;

/** Each number of each call: just inside its bounds, just outside on each side, the least and the greatest int. */
public final class NumberBoundsTest {
    private static final int TAKEN = 0;

    public static void main(String[] args) {
        constants();
        for (Scenes scene : Scenes.values()) {
            for (Face.Call call : Face.calls(scene.locks)) {
                if (call.hasNoGoodNumbers()) {
                    isBad(scene, call, call.usual());
                } else {
                    usualIsTaken(scene, call);
                    insideIsTaken(scene, call);
                }
                outsideIsBad(scene, call);
                twoOutsideAreOneBad(scene, call);
            }
        }
        keyAboveIsBad();
        Check.end();
    }

    private static void constants() {
        Check.due("NONE", LockFlight.NONE, -1);
        Check.due("BAD", LockFlight.BAD, -2);
        Check.due("NO", LockFlight.NO, -3);
        Check.due("FULL", LockFlight.FULL, -4);
    }

    private static void usualIsTaken(Scenes scene, Face.Call call) {
        isAnswered(scene, call, call.usual(), dueRefusal(scene, call, call.usual()));
    }

    private static void insideIsTaken(Scenes scene, Face.Call call) {
        for (int place = 0; place < call.bounds().length; place++) {
            int least = call.bounds()[place][0];
            int most = call.bounds()[place][1];
            for (int number : List.of(least, Math.min(least + 1, most), Math.max(least, most - 1), most)) {
                int[] numbers = call.with(place, number);
                isAnswered(scene, call, numbers, dueRefusal(scene, call, numbers));
            }
        }
    }

    private static void outsideIsBad(Scenes scene, Face.Call call) {
        for (int place = 0; place < call.bounds().length; place++) {
            for (int number : outside(call.bounds()[place])) {
                isBad(scene, call, call.with(place, number));
            }
        }
    }

    private static void twoOutsideAreOneBad(Scenes scene, Face.Call call) {
        for (int first = 0; first < call.bounds().length; first++) {
            for (int second = first + 1; second < call.bounds().length; second++) {
                int[] numbers = call.with(first, call.bounds()[first][0] - 1);
                numbers[second] = call.bounds()[second][1] + 1;
                isBad(scene, call, numbers);
            }
        }
    }

    /** Some far ones would be inside again if only their lowest bits, or their amount, were looked at. */
    private static List<Integer> outside(int[] bound) {
        List<Integer> numbers = new ArrayList<>();
        for (int number : new int[] {bound[0] - 1, bound[1] + 1, Integer.MIN_VALUE, Integer.MAX_VALUE,
            Integer.MIN_VALUE + bound[0], Integer.MAX_VALUE - 1, bound[0] + 32, bound[0] + 256, bound[0] + (1 << 24),
            -bound[1], -1000, -2, -1}) {
            if (number < bound[0] || number > bound[1]) {
                numbers.add(number);
            }
        }
        return numbers;
    }

    /** What numbers as told are refused as in a scene; TAKEN if they are not. */
    private static int dueRefusal(Scenes scene, Face.Call call, int[] numbers) {
        switch (call.name()) {
            case "lock", "type", "reading":
                return scene == Scenes.FULL ? LockFlight.FULL : TAKEN;
            case "undo":
                return scene == Scenes.NEW ? LockFlight.NO : TAKEN;
            case "drawn":
                return numbers[1] == 0 ? LockFlight.NO : TAKEN;
            case "from":
                boolean kept = scene == Scenes.FULL || scene == Scenes.MIDDLING && numbers[0] == 0;
                return kept ? TAKEN : LockFlight.NO;
            default:
                return TAKEN;
        }
    }

    private static void isBad(Scenes scene, Face.Call call, int[] numbers) {
        isAnswered(scene, call, numbers, LockFlight.BAD);
    }

    private static void isAnswered(Scenes scene, Face.Call call, int[] numbers, int refusal) {
        String told = scene + ": " + call.told(numbers);
        LockFlight x = scene.make();
        List<Long> before = Look.refusals(x);
        long answer = call.ask(x, numbers);
        Check.due(told + ", BAD", x.status(0), before.get(0) + (refusal == LockFlight.BAD ? 1 : 0));
        Check.due(told + ", NO", x.status(1), before.get(1) + (refusal == LockFlight.NO ? 1 : 0));
        Check.due(told + ", FULL", x.status(2), before.get(2) + (refusal == LockFlight.FULL ? 1 : 0));
        if (refusal != TAKEN) {
            Check.due(told, answer, refusal == LockFlight.BAD ? call.bad() : refusal);
        }
        if (refusal != TAKEN || call.asks()) {
            Check.same(told + " changes nothing", Look.into(x), Look.into(scene.make()));
        }
    }

    private static void keyAboveIsBad() {
        Face.Call key = Face.calls(8).stream().filter(call -> call.name().equals("key")).findFirst().orElseThrow();
        for (int a = 1; a < 8; a++) {
            for (int down = 0; down < 2; down++) {
                isBad(Scenes.FULL, key, new int[] {down, a, a - 1});
                isAnswered(Scenes.FULL, key, new int[] {down, a, a}, TAKEN);
                isAnswered(Scenes.FULL, key, new int[] {down, a - 1, a}, TAKEN);
            }
        }
    }
}
