import java.util.Random;

/** Whatever follows from runs, over many flights, against the telling minute by minute. */
public final class OracleTest {
    private static final Random RANDOM = new Random(20261118);

    public static void main(String[] args) {
        for (int i = 0; i < 400; i++) {
            oneFlight(i % 9);
        }
        Check.end();
    }

    private static void oneFlight(int n) {
        int strength = RANDOM.nextInt(10);
        int[][] locks = new int[n][];
        // long ways between few kinds make locks leak back more often
        boolean far = RANDOM.nextBoolean();
        for (int i = 0; i < n; i++) {
            int road = far ? 12 + RANDOM.nextInt(9) : 1 + RANDOM.nextInt(20);
            locks[i] = Check.lock(RANDOM.nextInt(6), RANDOM.nextInt(2), road);
        }
        for (int down = 0; down < 2; down++) {
            for (int ahead = 0; ahead < 3; ahead++) {
                asked(locks, strength, down, ahead);
            }
        }
        LockFlight x = Check.flight(strength, locks);
        for (int ahead = 0; ahead < 3; ahead++) {
            drawn(x, locks, strength, ahead);
        }
        for (int down = 0; down < 2; down++) {
            int ahead = 1 + RANDOM.nextInt(2);
            readings(x, locks, strength, down, ahead, RANDOM.nextInt(2));
        }
    }

    /** By an object of its own, as one is used for 512 calls at most. */
    private static void asked(int[][] locks, int strength, int down, int ahead) {
        LockFlight x = Check.flight(strength, locks);
        int k = 1 + RANDOM.nextInt(9);
        long before = x.digest();
        runs(x, locks, strength, down, ahead, k);
        sets(x, locks, strength, down, ahead, k);
        Check.due("nothing is changed", x.digest(), before);
    }

    private static void runs(LockFlight x, int[][] locks, int strength, int down, int ahead, int k) {
        for (int shut = 0; shut < 2; shut++) {
            MinuteByMinute m = new MinuteByMinute(locks, strength, down, ahead, k, 2 * shut);
            Check.due("takes 0", x.takes(down, ahead, k, shut, 0), m.minutes);
            Check.due("takes 1", x.takes(down, ahead, k, shut, 1), m.water);
            for (int p = 0; p < locks.length; p++) {
                int[] want = {m.comes[p], m.goesIn[p], m.goesOut[p], m.done[p], m.made[p]};
                for (int what = 0; what < 5; what++) {
                    Check.due("at " + what, x.at(down, ahead, k, shut, p, what), want[what]);
                }
            }
            Check.due("strong", x.strong(down, ahead, k, shut), strongest(locks, down, ahead, k, shut));
            if (ahead > 0) {
                Check.due("lead", x.lead(down, ahead, shut), best(locks, strength, down, ahead, shut)[0]);
            }
            Check.due("worth", x.worth(down, shut),
                best(locks, strength, down, 1, shut)[1] - best(locks, strength, down, 2, shut)[1]);
        }
    }

    private static int strongest(int[][] locks, int down, int ahead, int k, int shut) {
        int least = 9;
        for (int s = 8; s >= 0; s--) {
            if (new MinuteByMinute(locks, s, down, ahead, k, 2 * shut).minutes
                <= new MinuteByMinute(locks, least, down, ahead, k, 2 * shut).minutes) {
                least = s;
            }
        }
        return least;
    }

    private static int[] best(int[][] locks, int strength, int down, int ahead, int shut) {
        int[] best = {9, new MinuteByMinute(locks, strength, down, ahead, 9, 2 * shut).minutes};
        for (int k = 8; k >= 1; k--) {
            int minutes = new MinuteByMinute(locks, strength, down, ahead, k, 2 * shut).minutes;
            if (minutes <= best[1]) {
                best = new int[] {k, minutes};
            }
        }
        return best;
    }

    private static int[][] withRight(int[][] locks, int set, int down) {
        int[][] copy = new int[locks.length][];
        for (int i = 0; i < locks.length; i++) {
            copy[i] = locks[i].clone();
            if ((set >> i & 1) == 1) {
                copy[i][1] = down;
            }
        }
        return copy;
    }

    private static void sets(LockFlight x, int[][] locks, int strength, int down, int ahead, int k) {
        int n = locks.length;
        MinuteByMinute plain = new MinuteByMinute(locks, strength, down, ahead, k, 0);
        int men = RANDOM.nextInt(4);
        long bestRank = Long.MAX_VALUE;
        for (int set = (1 << n) - 1; set >= 0; set--) {
            if (Integer.bitCount(set) <= men) {
                int minutes = new MinuteByMinute(withRight(locks, set, down), strength, down, ahead, k, 0).minutes;
                bestRank = Math.min(bestRank, (minutes * 10L + Integer.bitCount(set)) * 1000 + set);
            }
        }
        Check.due("hire 0", x.hire(down, ahead, k, men, 0), bestRank % 1000);
        Check.due("hire 1", x.hire(down, ahead, k, men, 1), bestRank / 10000);
        int m = RANDOM.nextInt(300);
        int through = 0;
        for (int out : plain.goesOut) {
            through += out <= m ? 1 : 0;
        }
        Check.due("dark", x.dark(down, ahead, k, m), through);
        for (int place = 0; place < n; place++) {
            int from = 0;
            for (int p = place; p < n; p++) {
                from |= 1 << (down == 1 ? n - 1 - p : p);
            }
            int w = RANDOM.nextInt(25);
            int waited = w + new MinuteByMinute(withRight(locks, from, down), strength, down, ahead, k, 0).minutes;
            Check.due("waits", x.waits(down, ahead, k, place, w), Integer.signum(plain.minutes - waited));
        }
        int later = RANDOM.nextInt(61);
        int[][] left = withRight(locks, (1 << n) - 1, 1 - down);
        int apart = Math.max(plain.minutes, later) + new MinuteByMinute(left, strength, down, ahead, k, 0).minutes;
        int shared = later + new MinuteByMinute(locks, strength, down, ahead, k, 3).minutes;
        Check.due("share", x.share(down, ahead, k, later), apart - shared);
    }

    private static void drawn(LockFlight x, int[][] locks, int strength, int ahead) {
        int seed = RANDOM.nextInt(1000000);
        int n = 1 + RANDOM.nextInt(30);
        int k = 1 + RANDOM.nextInt(9);
        java.math.BigInteger at = java.math.BigInteger.valueOf(seed);
        long total = 0;
        for (int run = 0; run < n; run++) {
            int[][] copy = withRight(locks, 0, 0);
            for (int[] lock : copy) {
                at = at.multiply(java.math.BigInteger.valueOf(1103515245)).add(java.math.BigInteger.valueOf(12345))
                    .mod(java.math.BigInteger.valueOf(2147483648L));
                lock[1] = at.testBit(16) ? 1 : 0;
            }
            total += new MinuteByMinute(copy, strength, 0, ahead, k, 0).minutes;
        }
        Check.due("drawn", x.drawn(seed, n, ahead, k), 1);
        long divisor = java.math.BigInteger.valueOf(total).gcd(java.math.BigInteger.valueOf(n)).longValue();
        Check.due("part 0", x.part(0), total / divisor);
        Check.due("part 1", x.part(1), n / divisor);
    }

    private static void readings(LockFlight x, int[][] locks, int strength, int down, int ahead, int shut) {
        x.forget();
        int n = locks.length;
        if (n == 0) {
            return;
        }
        int seen = 1 + RANDOM.nextInt(9);
        MinuteByMinute truth = new MinuteByMinute(locks, strength, down, ahead, seen, 2 * shut);
        int count = 1 + RANDOM.nextInt(6);
        int[] places = new int[count];
        for (int i = 0; i < count; i++) {
            places[i] = RANDOM.nextInt(n);
            Check.due("reading", x.reading(places[i], truth.goesIn[places[i]]), i);
        }
        int bits = 0;
        for (int k = 1; k <= 9; k++) {
            MinuteByMinute m = new MinuteByMinute(locks, strength, down, ahead, k, 2 * shut);
            boolean fits = true;
            for (int place : places) {
                fits &= m.goesIn[place] == truth.goesIn[place];
            }
            bits |= fits ? 1 << k : 0;
        }
        Check.due("leads", x.leads(down, ahead, shut), bits);
    }
}
