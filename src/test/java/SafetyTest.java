import java.lang.reflect.InvocationTargetException;
import java.lang.reflect.Method;
import java.util.ArrayList;
import java.util.Comparator;
import java.util.List;
import java.util.Random;
import java.util.Set;

/** Any numbers in any state: nothing is thrown; what is refused or only asked changes nothing but STATUS. */
public final class SafetyTest {
    private static final Random RANDOM = new Random(4242);
    private static final int[] EDGES = {Integer.MIN_VALUE, Integer.MIN_VALUE + 1, -1000, -3, -2, -1, 10, 20, 21, 30, 31,
        32, 33, 60, 61, 63, 64, 127, 128, 150, 999, 1000, 999999, 1000000, Integer.MAX_VALUE - 1, Integer.MAX_VALUE};
    private static final Set<String> ASKING = Set.of("of", "takes", "at", "lead", "worth", "strong", "hire", "dark",
        "waits", "share", "key", "leads", "part", "status", "count", "digest");

    public static void main(String[] args) throws IllegalAccessException {
        List<Method> calls = new ArrayList<>();
        for (Method method : LockFlight.class.getDeclaredMethods()) {
            if (java.lang.reflect.Modifier.isPublic(method.getModifiers())) {
                calls.add(method);
            }
        }
        // the order of reflection is not promised
        calls.sort(Comparator.comparing(Method::getName));
        Check.due("calls of the face", calls.size(), 30);
        for (int i = 0; i < 400; i++) {
            oneObject(calls);
        }
        Check.end();
    }

    private static void oneObject(List<Method> calls) throws IllegalAccessException {
        LockFlight x = new LockFlight();
        boolean wild = RANDOM.nextBoolean();
        for (int i = 0; i < 500; i++) {
            Method call = calls.get(RANDOM.nextInt(calls.size()));
            Object[] numbers = new Object[call.getParameterCount()];
            for (int n = 0; n < numbers.length; n++) {
                numbers[n] = number(wild ? 3 : 30);
            }
            oneCall(x, call, numbers);
        }
    }

    private static int number(int oneOf) {
        return RANDOM.nextInt(oneOf) == 0 ? EDGES[RANDOM.nextInt(EDGES.length)] : RANDOM.nextInt(RANDOM.nextInt(9) + 1);
    }

    private static int[] statuses(LockFlight x) {
        return new int[] {x.status(0), x.status(1), x.status(2)};
    }

    private static void oneCall(LockFlight x, Method call, Object[] numbers) throws IllegalAccessException {
        String name = call.getName() + java.util.Arrays.toString(numbers);
        long before = x.digest();
        int[] old = statuses(x);
        long answer = 0;
        try {
            answer = ((Number) call.invoke(x, numbers)).longValue();
        } catch (InvocationTargetException thrown) {
            Check.due(name + " threw " + thrown.getCause(), 1, 0);
            return;
        }
        int[] now = statuses(x);
        int refusals = now[0] + now[1] + now[2] - old[0] - old[1] - old[2];
        Check.due(name + " refused once at most", refusals == 0 || refusals == 1 ? 1 : 0, 1);
        if (refusals == 1 || ASKING.contains(call.getName())) {
            Check.due(name + " changes nothing", x.digest(), before);
        }
        if (refusals == 1) {
            long due = now[1] > old[1] ? -3 : now[2] > old[2] ? -4 : badOf(call.getName());
            Check.due(name, answer, due);
        } else if (!Set.of("worth", "share", "read", "waits", "at", "digest").contains(call.getName())) {
            Check.due(name + " tells a number not below 0", answer >= 0 ? 1 : 0, 1);
        }
    }

    private static int badOf(String name) {
        return switch (name) {
            case "worth", "share" -> -1000;
            case "status" -> -1;
            default -> -2;
        };
    }
}
