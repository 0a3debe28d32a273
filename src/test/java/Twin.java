import java.util.ArrayDeque;
import java.util.ArrayList;
import java.util.List;
import java.util.regex.Matcher;
import java.util.regex.Pattern;

/** A second telling of what calls change, held quite otherwise than the class holds it. */
final class Twin {
    private static final Pattern TOKEN = Pattern.compile(" *([a-z]+|[0-9]+|[^ ])");

    /** What may be undone, and what an image keeps, as whole copies. */
    private record Scene(List<int[]> locks, int strength, int time, int water, List<int[]> readings,
        ArrayDeque<Scene> undos) {

        Scene copy() {
            List<int[]> copies = new ArrayList<>();
            for (int[] lock : locks) {
                copies.add(lock.clone());
            }
            return new Scene(copies, strength, time, water, new ArrayList<>(readings), new ArrayDeque<>(undos));
        }
    }

    private Scene now = blank(5);
    private final Scene[] images = new Scene[2];
    private String text = "";
    private long above = 0, below = 1;
    private final int[] refused = new int[3];

    private static Scene blank(int strength) {
        return new Scene(new ArrayList<>(), strength, 0, 0, new ArrayList<>(), new ArrayDeque<>());
    }

    private int refuse(int which) {
        refused[which]++;
        return -2 - which;
    }

    private static boolean in(int n, int least, int most) {
        return least <= n && n <= most;
    }

    private void remember() {
        now.undos.push(now.copy());
        if (now.undos.size() > 8) {
            now.undos.removeLast();
        }
    }

    int flight(int strength) {
        if (!in(strength, 0, 9)) {
            return refuse(0);
        }
        int before = now.locks.size();
        now = blank(strength);
        return before;
    }

    int lock(int kind, int stands, int road) {
        if (!in(kind, 0, 5) || !in(stands, 0, 1) || !in(road, 1, 20)) {
            return refuse(0);
        }
        if (now.locks.size() == 8) {
            return refuse(2);
        }
        now.locks.add(new int[] {kind, stands, road});
        now.undos.clear();
        return now.locks.size() - 1;
    }

    int strength(int n) {
        if (!in(n, 0, 9)) {
            return refuse(0);
        }
        int before = now.strength;
        now = new Scene(now.locks, n, now.time, now.water, now.readings, now.undos);
        return before;
    }

    int turn(int lock) {
        if (!in(lock, 0, now.locks.size() - 1)) {
            return refuse(0);
        }
        remember();
        return now.locks.get(lock)[1] = 1 - now.locks.get(lock)[1];
    }

    int type(int c) {
        if (!in(c, 0, 127)) {
            return refuse(0);
        }
        if (text.length() == 150) {
            return refuse(2);
        }
        text += (char) c;
        return text.length();
    }

    int clear() {
        int before = text.length();
        text = "";
        return before;
    }

    int read() {
        Matcher tokens = TOKEN.matcher(text);
        Scene read = blank(0);
        int[] numbers = new int[4];
        int[][] bounds = {{0, 9}, {0, 5}, {0, 1}, {1, 20}};
        int seen = 0;
        while (tokens.lookingAt()) {
            String token = tokens.group(1);
            // the first three tokens are those of flight, then come five for each lock
            int step = seen < 3 ? seen : 3 + (seen - 3) % 5;
            boolean stands = switch (step) {
                case 0 -> token.equals("flight");
                case 3 -> token.equals("lock") && read.locks.size() < 8;
                case 2, 7 -> token.equals(";");
                default -> {
                    int which = step == 1 ? 0 : step - 3;
                    boolean number = token.matches("[0-9]{1,2}");
                    numbers[which] = number ? Integer.parseInt(token) : -1;
                    yield number && in(numbers[which], bounds[which][0], bounds[which][1]);
                }
            };
            if (!stands) {
                return -10 - tokens.start(1);
            }
            if (step == 7) {
                read.locks.add(new int[] {numbers[1], numbers[2], numbers[3]});
            }
            seen++;
            tokens.region(tokens.end(), text.length());
        }
        if (seen < 3 || (seen - 3) % 5 != 0) {
            return -10 - text.length();
        }
        now = new Scene(read.locks, numbers[0], 0, 0, read.readings, read.undos);
        return 1 + read.locks.size();
    }

    int run(int down, int ahead, int k, int shut) {
        if (!in(down, 0, 1) || !in(ahead, 0, 2) || !in(k, 1, 9) || !in(shut, 0, 1)) {
            return refuse(0);
        }
        MinuteByMinute m = new MinuteByMinute(now.locks.toArray(new int[0][]), now.strength, down, ahead, k, 2 * shut);
        remember();
        for (int[] lock : now.locks) {
            lock[1] = 1 - down;
        }
        now = new Scene(now.locks, now.strength, now.time + m.minutes, now.water + m.water, now.readings, now.undos);
        return m.minutes;
    }

    int undo() {
        if (now.undos.isEmpty()) {
            return refuse(1);
        }
        Scene old = now.undos.pop();
        for (int i = 0; i < now.locks.size(); i++) {
            now.locks.get(i)[1] = old.locks.get(i)[1];
        }
        now = new Scene(now.locks, now.strength, old.time, old.water, now.readings, now.undos);
        return now.time;
    }

    int reading(int place, int minute) {
        if (!in(place, 0, now.locks.size() - 1) || !in(minute, 0, 999)) {
            return refuse(0);
        }
        if (now.readings.size() == 6) {
            return refuse(2);
        }
        now.readings.add(new int[] {place, minute});
        return now.readings.size() - 1;
    }

    int forget() {
        int before = now.readings.size();
        now.readings.clear();
        return before;
    }

    int image(int i) {
        if (!in(i, 0, 1)) {
            return refuse(0);
        }
        images[i] = now.copy();
        return 1;
    }

    int from(int i) {
        if (!in(i, 0, 1)) {
            return refuse(0);
        }
        if (images[i] == null) {
            return refuse(1);
        }
        now = images[i].copy();
        return 1;
    }

    int status(int what) {
        if (!in(what, 0, 2)) {
            refused[0]++;
            return -1;
        }
        return refused[what];
    }

    /** What a call that only asks was answered: twins count its refusal, too. */
    void heardRefusal() {
        refused[0]++;
    }

    void heardFraction(long newAbove, long newBelow) {
        above = newAbove;
        below = newBelow;
    }

    long digest() {
        List<Integer> values = new ArrayList<>(List.of(now.locks.size(), now.strength, now.time, now.water,
            now.readings.size(), now.undos.size(), text.length()));
        for (int[] lock : now.locks) {
            values.addAll(List.of(lock[0], lock[1], lock[2]));
        }
        for (int[] reading : now.readings) {
            values.addAll(List.of(reading[0], reading[1]));
        }
        values.add((int) above);
        values.add((int) below);
        long h = 953;
        for (int v : values) {
            h = 31 * h + v;
        }
        return h;
    }
}
