/**
 * A second telling of a run, minute by minute: the one ahead and the boat are looked at in each minute until
 * neither can do more in it. It shares nothing with the class but the document.
 */
final class MinuteByMinute {
    static class Plain {
        int ready(int strength) { return 4; }
        int passed(int strength) { return 6; }
        int stays() { return 0; }
    }

    static class Stiff extends Plain {
        @Override int ready(int strength) { return strength < 5 ? 2 * super.ready(strength) : super.ready(strength); }
        @Override int passed(int strength) { return super.passed(strength) + 2; }
    }

    static class Leaking extends Plain {
        @Override int stays() { return 30; }
    }

    static class Rusty extends Stiff {
        @Override int passed(int strength) { return super.passed(strength) + (strength < 5 ? 1 : 0); }
        @Override int stays() { return 20; }
    }

    static class Deep extends Plain {
        @Override int ready(int strength) { return super.ready(strength) + 2; }
        @Override int passed(int strength) { return super.passed(strength) * 3 / 2; }
    }

    static class Guarded extends Leaking {
        @Override int ready(int strength) { return super.ready(strength) - 1; }
        @Override int stays() { return 2 * super.stays(); }
    }

    private static final Plain[] KINDS = {
        new Plain(), new Stiff(), new Leaking(), new Rusty(), new Deep(), new Guarded()};

    private enum Doing { UNDERWAY, MAKING, THERE, PASSING, OVER }

    private final Plain[] kind;
    private final boolean[] right;
    private final int[] way;
    private final int n;
    private final int strength;
    private final int ahead;
    private final int k;
    private final int behind;

    final int[] comes, goesIn, goesOut, done, made;
    int minutes = 0;
    int water = 0;

    private Doing his = Doing.UNDERWAY, boats = Doing.UNDERWAY;
    private int hisPlace = 0, hisUntil = 0, boatsPlace = 0, boatsUntil = 0;

    /** Locks are rows of KIND, STANDS, ROAD; behind is told in minutes more of each passing. */
    MinuteByMinute(int[][] locks, int strength, int down, int ahead, int k, int behind) {
        n = locks.length;
        this.strength = strength;
        this.ahead = ahead;
        this.k = k;
        this.behind = behind;
        kind = new Plain[n];
        right = new boolean[n];
        way = new int[n];
        for (int p = 0; p < n; p++) {
            int i = down == 1 ? n - 1 - p : p;
            kind[p] = KINDS[locks[i][0]];
            right[p] = locks[i][1] == down;
            // the way that ends at place p
            way[p] = p == 0 ? 0 : locks[down == 1 ? i : i - 1][2];
        }
        comes = unknown();
        goesIn = unknown();
        goesOut = unknown();
        done = unknown();
        made = new int[n];
        if (ahead == 0) {
            his = Doing.OVER;
        }
        for (int minute = 0; boatsPlace < n; minute++) {
            boolean more = true;
            while (more) {
                more = his(minute);
                more |= boats(minute);
            }
        }
        minutes = n == 0 ? 0 : goesOut[n - 1];
        for (int p = 0; p < n; p++) {
            water += 1 + made[p];
        }
    }

    private int[] unknown() {
        int[] row = new int[n];
        java.util.Arrays.fill(row, -1);
        return row;
    }

    private boolean his(int minute) {
        if (his == Doing.UNDERWAY && minute == hisUntil) {
            if (right[hisPlace]) {
                done[hisPlace] = minute;
                his = Doing.THERE;
            } else {
                his = Doing.MAKING;
                hisUntil = minute + kind[hisPlace].ready(strength);
            }
            return true;
        }
        if (his == Doing.MAKING && minute == hisUntil) {
            made[hisPlace]++;
            done[hisPlace] = minute;
            his = Doing.THERE;
            return true;
        }
        if (his == Doing.THERE) {
            int next = hisPlace + 1;
            if (next == n) {
                his = Doing.OVER;
                return true;
            }
            if (next - k < 0 || comes[next - k] >= 0) {
                his = Doing.UNDERWAY;
                hisPlace = next;
                hisUntil = minute + (ahead == 2 ? way[next] / 2 + way[next] % 2 : way[next]);
                return true;
            }
        }
        return false;
    }

    private boolean boats(int minute) {
        if (boatsPlace == n) {
            return false;
        }
        int p = boatsPlace;
        switch (boats) {
            case UNDERWAY:
                if (minute != boatsUntil) {
                    return false;
                }
                comes[p] = minute;
                boats = Doing.THERE;
                if (ahead == 0 ? !right[p] : leaked(p, minute)) {
                    boats = Doing.MAKING;
                    boatsUntil = minute + kind[p].ready(strength);
                }
                return true;
            case MAKING:
                if (minute != boatsUntil) {
                    return false;
                }
                made[p]++;
                enter(p, minute);
                return true;
            case THERE:
                if (ahead != 0 && done[p] < 0) {
                    return false;
                }
                enter(p, minute);
                return true;
            default:
                if (minute != boatsUntil) {
                    return false;
                }
                goesOut[p] = minute;
                boatsPlace++;
                boats = Doing.UNDERWAY;
                boatsUntil = boatsPlace < n ? minute + way[boatsPlace] : minute;
                return true;
        }
    }

    private boolean leaked(int p, int minute) {
        return done[p] >= 0 && made[p] > 0 && kind[p].stays() > 0 && minute - done[p] > kind[p].stays();
    }

    private void enter(int p, int minute) {
        goesIn[p] = minute;
        boats = Doing.PASSING;
        boatsUntil = minute + kind[p].passed(strength) + behind;
    }
}
