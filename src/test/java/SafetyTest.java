import java.lang.reflect.InvocationTargetException;
import java.lang.reflect.Method;
import java.lang.reflect.Modifier;
import java.util.ArrayList;
import java.util.Arrays;
import java.util.Comparator;
import java.util.List;
import java.util.Random;
import java.util.Set;

/** Any numbers in any state: nothing is thrown; what is refused or only asked changes nothing but STATUS. */
public final class SafetyTest {
    private static final Random RANDOM = new Random(4242);
    private static final int[] EDGES = {Integer.MIN_VALUE, Integer.MIN_VALUE + 1, -1000, -3, -2, -1, 10, 20, 21, 30, 31,
        32, 33, 60, 61, 63, 64, 127, 128, 150, 999, 1000, 999999, 1000000, Integer.MAX_VALUE - 1, Integer.MAX_VALUE};
    private static final Set<String> ASKING = Set.of("of", "takes", "at", "lead", "worth", "strong", "hire", "dark",
        "waits", "share", "key", "leads", "part", "status", "count", "digest");
    private static final Set<String> BELOW_ZERO = Set.of("worth", "share", "read", "waits", "at", "digest");

    public static void main(String[] args) throws IllegalAccessException {
        List<Method> calls = new ArrayList<>();
        for (Method method : LockFlight.class.getDeclaredMethods()) {
            if (Modifier.isPublic(method.getModifiers())) {
                calls.add(method);
            }
        }
        // the order of reflection is not promised
        calls.sort(Comparator.comparing(Method::getName));
        Check.due("calls of the face", calls.size(), 30);
        for (int i = 0; i < 4000; i++) {
            oneObject(Scenes.values()[i % 3].make(), calls);
        }
        Check.end();
    }

    /** With what is asked around them 60 calls are 300, so that a full object, too, stays below its 512. */
    private static void oneObject(LockFlight x, List<Method> calls) throws IllegalAccessException {
        boolean wild = RANDOM.nextBoolean();
        List<Long> seen = seen(x);
        for (int i = 0; i < 60; i++) {
            Method call = calls.get(RANDOM.nextInt(calls.size()));
            Object[] numbers = new Object[call.getParameterCount()];
            for (int n = 0; n < numbers.length; n++) {
                numbers[n] = number(wild ? 3 : 30);
            }
            seen = oneCall(x, seen, call, numbers);
        }
    }

    private static int number(int oneOf) {
        return RANDOM.nextInt(oneOf) == 0 ? EDGES[RANDOM.nextInt(EDGES.length)] : RANDOM.nextInt(RANDOM.nextInt(9) + 1);
    }

    /** STATUS (0, 1, 2), then the digest. */
    private static List<Long> seen(LockFlight x) {
        List<Long> seen = new ArrayList<>(Look.refusals(x));
        seen.add(x.digest());
        return seen;
    }

    private static List<Long> oneCall(LockFlight x, List<Long> before, Method call, Object[] numbers)
        throws IllegalAccessException {
        String name = call.getName() + Arrays.toString(numbers);
        long answer = 0;
        try {
            answer = ((Number) call.invoke(x, numbers)).longValue();
        } catch (InvocationTargetException thrown) {
            Check.due(name + " threw " + thrown.getCause(), 1, 0);
        }
        List<Long> now = seen(x);
        long[] refused = {now.get(0) - before.get(0), now.get(1) - before.get(1), now.get(2) - before.get(2)};
        long refusals = refused[0] + refused[1] + refused[2];
        Check.due(name + " refused once at most", refusals == 0 || refusals == 1 ? 1 : 0, 1);
        if (refusals == 1 || ASKING.contains(call.getName())) {
            Check.due(name + " changes nothing", now.get(3), before.get(3));
        }
        if (refusals == 1) {
            Check.due(name, answer, refused[1] == 1 ? -3 : refused[2] == 1 ? -4 : badOf(call.getName()));
        } else if (!BELOW_ZERO.contains(call.getName())) {
            Check.due(name + " tells a number not below 0", answer >= 0 ? 1 : 0, 1);
        }
        return now;
    }

    private static int badOf(String name) {
        return switch (name) {
            case "worth", "share" -> -1000;
            case "status" -> -1;
            default -> -2;
        };
    }
}
