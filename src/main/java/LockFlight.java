/** A flight of locks, boats that go up and down it, and whoever goes ahead of them to make locks ready. */
public final class LockFlight {
    public static final int NONE = -1, BAD = -2, NO = -3, FULL = -4;

    // worth() and share() may answer -2 in earnest, so they tell BAD by a number they never reach
    private static final int BAD_FAR = -1000;
    private static final int FAULT_BASE = -10;

    private static final int MAX_LOCKS = 8;
    private static final int MAX_READINGS = 6;
    private static final int MAX_UNDOS = 8;
    private static final int MAX_TEXT = 150;

    private static final int LAST_KIND = 5;
    private static final int MAX_ROAD = 20;
    private static final int MAX_STRENGTH = 9;
    private static final int FIRST_STRENGTH = 5;
    private static final int MAX_LEAD = 9;
    private static final int MAX_MINUTE = 999;
    private static final int MAX_WAIT = 60;
    private static final int MAX_MEN = 3;
    private static final int MAX_SEED = 999999;
    private static final int MAX_DRAWN = 30;

    private static final int NOBODY = 0, ON_FOOT = 1, ON_BICYCLE = 2;
    private static final int SHARED_MINUTES = 3;
    // a common divisor of ints is found in fewer steps than this
    private static final int DIVISOR_STEPS = 100;

    private final Flight now = new Flight();
    private final Flight firstImage = new Flight();
    private final Flight secondImage = new Flight();
    private final Flight draft = new Flight();
    private final Trip trip = new Trip();
    private final TextReader text = new TextReader();
    private boolean firstKept = false;
    private boolean secondKept = false;
    private long above = 0;
    private long below = 1;
    private int badCalls = 0;
    private int noCalls = 0;
    private int fullCalls = 0;

    public LockFlight() {
    }

    // ---- a flight

    public int flight(int strength) {
        if (!within(strength, 0, MAX_STRENGTH)) {
            return refusedBad();
        }
        int before = now.locks;
        now.reset(strength);
        return before;
    }

    public int lock(int kind, int stands, int road) {
        if (!within(kind, 0, LAST_KIND) || !within(stands, 0, 1) || !within(road, 1, MAX_ROAD)) {
            return refusedBad();
        }
        if (now.locks >= MAX_LOCKS) {
            return refusedFull();
        }
        now.addLock(kind, stands, road);
        return now.locks - 1;
    }

    public int strength(int n) {
        if (!within(n, 0, MAX_STRENGTH)) {
            return refusedBad();
        }
        int before = now.strength;
        now.strength = n;
        return before;
    }

    public int turn(int lock) {
        if (!now.has(lock)) {
            return refusedBad();
        }
        now.remember();
        now.stands = now.stands ^ (1 << lock);
        return now.standsOf(lock);
    }

    public int type(int c) {
        if (!within(c, 0, 127)) {
            return refusedBad();
        }
        if (text.length >= MAX_TEXT) {
            return refusedFull();
        }
        text.append(c);
        return text.length;
    }

    public int clear() {
        int before = text.length;
        text.length = 0;
        return before;
    }

    public int read() {
        int fault = text.faultInto(draft);
        if (fault != NONE) {
            return FAULT_BASE - fault;
        }
        now.copyFrom(draft);
        return 1 + now.locks;
    }

    // ---- runs (up or down, AHEAD, LEAD, SHUT)

    public int run(int down, int ahead, int k, int shut) {
        if (!isRun(down, ahead, k, shut)) {
            return refusedBad();
        }
        trip.tell(now, down, ahead, k, shut);
        trip.go(now);
        now.remember();
        now.stands = trip.standsBehind(now);
        now.time += trip.minutes;
        now.water += trip.water;
        return trip.minutes;
    }

    public int undo() {
        if (now.undos == 0) {
            return refusedNo();
        }
        now.goBack();
        return now.time;
    }

    public int of(int lock, int what) {
        if (!now.has(lock) || !within(what, 0, 5)) {
            return refusedBad();
        }
        int kind = now.kinds.get(lock);
        switch (what) {
            case 0: return kind;
            case 1: return now.standsOf(lock);
            case 2: return now.roads.get(lock);
            case 3: return Kinds.readyMinutes(kind, now.strength);
            case 4: return Kinds.passedMinutes(kind, now.strength);
            default: return Kinds.staysMinutes(kind);
        }
    }

    public int takes(int down, int ahead, int k, int shut, int what) {
        if (!isRun(down, ahead, k, shut) || !within(what, 0, 1)) {
            return refusedBad();
        }
        trip.tell(now, down, ahead, k, shut);
        trip.go(now);
        return what == 0 ? trip.minutes : trip.water;
    }

    public int at(int down, int ahead, int k, int shut, int place, int what) {
        if (!isRun(down, ahead, k, shut) || !now.has(place) || !within(what, 0, 4)) {
            return refusedBad();
        }
        trip.tell(now, down, ahead, k, shut);
        trip.go(now);
        switch (what) {
            case 0: return trip.comes.get(place);
            case 1: return trip.goesIn.get(place);
            case 2: return trip.goesOut.get(place);
            case 3: return trip.done.get(place);
            default: return trip.made.get(place);
        }
    }

    // ---- what is best

    public int lead(int down, int ahead, int shut) {
        if (!isLedRun(down, ahead, shut)) {
            return refusedBad();
        }
        return bestLead(down, ahead, shut);
    }

    public int worth(int down, int shut) {
        if (!within(down, 0, 1) || !within(shut, 0, 1)) {
            return refusedBadFar();
        }
        return minutesByBestLead(down, ON_FOOT, shut) - minutesByBestLead(down, ON_BICYCLE, shut);
    }

    public int strong(int down, int ahead, int k, int shut) {
        if (!isRun(down, ahead, k, shut)) {
            return refusedBad();
        }
        trip.tell(now, down, ahead, k, shut);
        trip.strength = 0;
        int best = 0;
        int fewest = trip.go(now);
        for (int strength = 1; strength <= MAX_STRENGTH; strength++) {
            trip.strength = strength;
            int minutes = trip.go(now);
            if (minutes < fewest) {
                fewest = minutes;
                best = strength;
            }
        }
        return best;
    }

    public int hire(int down, int ahead, int k, int n, int what) {
        if (!isRun(down, ahead, k, 0) || !within(n, 0, MAX_MEN) || !within(what, 0, 1)) {
            return refusedBad();
        }
        trip.tell(now, down, ahead, k, 0);
        int best = 0;
        int fewest = trip.go(now);
        int all = now.allLocks();
        for (int set = 1; set <= all; set++) {
            int men = Integer.bitCount(set);
            if (men <= n) {
                int minutes = trip.goWithRight(now, set);
                // sets come by rising bits, so of like ones of one size the first stays
                if (minutes < fewest || minutes == fewest && men < Integer.bitCount(best)) {
                    fewest = minutes;
                    best = set;
                }
            }
        }
        return what == 0 ? best : fewest;
    }

    public int dark(int down, int ahead, int k, int m) {
        if (!isRun(down, ahead, k, 0) || !within(m, 0, MAX_MINUTE)) {
            return refusedBad();
        }
        trip.tell(now, down, ahead, k, 0);
        trip.go(now);
        int through = 0;
        for (int place = 0; place < now.locks; place++) {
            if (trip.goesOut.get(place) <= m) {
                through++;
            }
        }
        return through;
    }

    public int waits(int down, int ahead, int k, int place, int w) {
        if (!isRun(down, ahead, k, 0) || !now.has(place) || !within(w, 0, MAX_WAIT)) {
            return refusedBad();
        }
        trip.tell(now, down, ahead, k, 0);
        int atOnce = trip.go(now);
        int waited = w + trip.goWithRight(now, now.locksFrom(down, place));
        return Integer.compare(atOnce, waited);
    }

    public int share(int down, int ahead, int k, int x) {
        if (!isRun(down, ahead, k, 0) || !within(x, 0, MAX_WAIT)) {
            return refusedBadFar();
        }
        trip.tell(now, down, ahead, k, 0);
        int firstThrough = trip.go(now);
        trip.stands = trip.standsBehind(now);
        int secondThrough = Math.max(firstThrough, x) + trip.go(now);
        trip.tell(now, down, ahead, k, 0);
        trip.longer = SHARED_MINUTES;
        int sharedThrough = x + trip.go(now);
        return secondThrough - sharedThrough;
    }

    public int key(int down, int a, int b) {
        if (!within(down, 0, 1) || !now.has(a) || !now.has(b) || a > b) {
            return refusedBad();
        }
        int minutes = 0;
        for (int place = a; place < b; place++) {
            minutes += 2 * halfCutUp(now.roadBehind(down, place));
        }
        return minutes;
    }

    // ---- what was seen, drawn

    public int reading(int place, int minute) {
        if (!now.has(place) || !within(minute, 0, MAX_MINUTE)) {
            return refusedBad();
        }
        if (now.readings >= MAX_READINGS) {
            return refusedFull();
        }
        now.addReading(place, minute);
        return now.readings - 1;
    }

    public int forget() {
        int before = now.readings;
        now.readings = 0;
        return before;
    }

    public int leads(int down, int ahead, int shut) {
        if (!isLedRun(down, ahead, shut)) {
            return refusedBad();
        }
        int bits = 0;
        for (int k = 1; k <= MAX_LEAD; k++) {
            trip.tell(now, down, ahead, k, shut);
            trip.go(now);
            if (readingsFit()) {
                bits = bits | (1 << k);
            }
        }
        return bits;
    }

    public int drawn(int seed, int n, int ahead, int k) {
        if (!within(seed, 0, MAX_SEED) || !within(n, 0, MAX_DRAWN) || !isRun(0, ahead, k, 0)) {
            return refusedBad();
        }
        if (n == 0) {
            return refusedNo();
        }
        trip.tell(now, 0, ahead, k, 0);
        long x = seed;
        long total = 0;
        for (int i = 0; i < n; i++) {
            int stands = 0;
            for (int lock = 0; lock < now.locks; lock++) {
                x = (x * 1103515245L + 12345L) % 2147483648L;
                stands = stands | ((int) (x / 65536L % 2L) << lock);
            }
            trip.stands = stands;
            total += trip.go(now);
        }
        setFraction(total, n);
        return 1;
    }

    // ---- what there is

    public long part(int what) {
        if (!within(what, 0, 1)) {
            return refusedBad();
        }
        return what == 0 ? above : below;
    }

    public int image(int i) {
        if (!within(i, 0, 1)) {
            return refusedBad();
        }
        if (i == 0) {
            firstImage.copyFrom(now);
            firstKept = true;
        } else {
            secondImage.copyFrom(now);
            secondKept = true;
        }
        return 1;
    }

    public int from(int i) {
        if (!within(i, 0, 1)) {
            return refusedBad();
        }
        if (!(i == 0 ? firstKept : secondKept)) {
            return refusedNo();
        }
        now.copyFrom(i == 0 ? firstImage : secondImage);
        return 1;
    }

    public int status(int what) {
        switch (what) {
            case 0: return badCalls;
            case 1: return noCalls;
            case 2: return fullCalls;
            default:
                badCalls++;
                return -1;
        }
    }

    public int count(int what) {
        if (!within(what, 0, 6)) {
            return refusedBad();
        }
        return howMany(what);
    }

    public long digest() {
        long h = 953;
        for (int what = 0; what <= 6; what++) {
            h = 31 * h + howMany(what);
        }
        for (int lock = 0; lock < now.locks; lock++) {
            h = 31 * h + now.kinds.get(lock);
            h = 31 * h + now.standsOf(lock);
            h = 31 * h + now.roads.get(lock);
        }
        for (int i = 0; i < now.readings; i++) {
            h = 31 * h + now.readPlaces.get(i);
            h = 31 * h + now.readMinutes.get(i);
        }
        h = 31 * h + above;
        return 31 * h + below;
    }

    // ---- helpers

    private int refusedBad() {
        badCalls++;
        return BAD;
    }

    private int refusedBadFar() {
        badCalls++;
        return BAD_FAR;
    }

    private int refusedNo() {
        noCalls++;
        return NO;
    }

    private int refusedFull() {
        fullCalls++;
        return FULL;
    }

    private int howMany(int what) {
        switch (what) {
            case 0: return now.locks;
            case 1: return now.strength;
            case 2: return now.time;
            case 3: return now.water;
            case 4: return now.readings;
            case 5: return now.undos;
            default: return text.length;
        }
    }

    private int bestLead(int down, int ahead, int shut) {
        trip.tell(now, down, ahead, 1, shut);
        int best = 1;
        int fewest = trip.go(now);
        for (int k = 2; k <= MAX_LEAD; k++) {
            trip.lead = k;
            int minutes = trip.go(now);
            if (minutes < fewest) {
                fewest = minutes;
                best = k;
            }
        }
        return best;
    }

    private int minutesByBestLead(int down, int ahead, int shut) {
        int k = bestLead(down, ahead, shut);
        trip.tell(now, down, ahead, k, shut);
        return trip.go(now);
    }

    private boolean readingsFit() {
        for (int i = 0; i < now.readings; i++) {
            if (trip.goesIn.get(now.readPlaces.get(i)) != now.readMinutes.get(i)) {
                return false;
            }
        }
        return true;
    }

    private void setFraction(long total, long parts) {
        long divisor = commonDivisor(total, parts);
        if (divisor > 0) {
            above = total / divisor;
            below = parts / divisor;
        }
    }

    private static long commonDivisor(long a, long b) {
        long larger = a;
        long smaller = b;
        for (int i = 0; i < DIVISOR_STEPS && smaller != 0; i++) {
            long rest = larger % smaller;
            larger = smaller;
            smaller = rest;
        }
        return larger;
    }

    private static boolean isRun(int down, int ahead, int k, int shut) {
        return within(down, 0, 1) && within(ahead, NOBODY, ON_BICYCLE)
            && within(k, 1, MAX_LEAD) && within(shut, 0, 1);
    }

    private static boolean isLedRun(int down, int ahead, int shut) {
        return isRun(down, ahead, 1, shut) && ahead != NOBODY;
    }

    private static boolean within(int n, int least, int most) {
        return n >= least && n <= most;
    }

    private static int halfCutUp(int road) {
        return (road + 1) / 2;
    }

    /** What the kinds of locks say of themselves, in minutes. */
    private static final class Kinds {
        static final int STIFF = 1, LEAKING = 2, RUSTY = 3, DEEP = 4, GUARDED = 5;
        static final int STRONG = 5;
        static final int PLAIN_READY = 4, PLAIN_PASSED = 6, PLAIN_STAYS = 0;
        static final int LEAKING_STAYS = 30, RUSTY_STAYS = 20;

        private Kinds() {
        }

        static int readyMinutes(int kind, int strength) {
            switch (kind) {
                case STIFF:
                case RUSTY: return strength < STRONG ? 2 * PLAIN_READY : PLAIN_READY;
                case DEEP: return PLAIN_READY + 2;
                case GUARDED: return PLAIN_READY - 1;
                default: return PLAIN_READY;
            }
        }

        static int passedMinutes(int kind, int strength) {
            int stiffPassed = PLAIN_PASSED + 2;
            switch (kind) {
                case STIFF: return stiffPassed;
                case RUSTY: return strength < STRONG ? stiffPassed + 1 : stiffPassed;
                case DEEP: return PLAIN_PASSED + PLAIN_PASSED / 2;
                default: return PLAIN_PASSED;
            }
        }

        static int staysMinutes(int kind) {
            switch (kind) {
                case LEAKING: return LEAKING_STAYS;
                case RUSTY: return RUSTY_STAYS;
                case GUARDED: return 2 * LEAKING_STAYS;
                default: return PLAIN_STAYS;
            }
        }
    }

    /** A row of numbers whose indices are looked at here, so that no use of one can fail. */
    private static final class Row {
        private final int[] cells;

        Row(int size) {
            cells = new int[Math.max(0, size)];
        }

        int get(int i) {
            return i >= 0 && i < cells.length ? cells[i] : 0;
        }

        void put(int i, int n) {
            if (i >= 0 && i < cells.length) {
                cells[i] = n;
            }
        }

        void copyFrom(Row other) {
            for (int i = 0; i < cells.length; i++) {
                cells[i] = other.get(i);
            }
        }

        void dropFirst() {
            for (int i = 0; i < cells.length - 1; i++) {
                cells[i] = cells[i + 1];
            }
        }
    }

    /** All that an image keeps: locks, strength, time, water, readings, and what may be undone. */
    private static final class Flight {
        int locks = 0;
        int strength = FIRST_STRENGTH;
        // bit i: lock i stands high
        int stands = 0;
        int time = 0;
        int water = 0;
        int readings = 0;
        int undos = 0;
        final Row kinds = new Row(MAX_LOCKS);
        final Row roads = new Row(MAX_LOCKS);
        final Row readPlaces = new Row(MAX_READINGS);
        final Row readMinutes = new Row(MAX_READINGS);
        final Row oldStands = new Row(MAX_UNDOS);
        final Row oldTimes = new Row(MAX_UNDOS);
        final Row oldWaters = new Row(MAX_UNDOS);

        void reset(int newStrength) {
            locks = 0;
            strength = newStrength;
            stands = 0;
            time = 0;
            water = 0;
            readings = 0;
            undos = 0;
        }

        void copyFrom(Flight other) {
            locks = other.locks;
            strength = other.strength;
            stands = other.stands;
            time = other.time;
            water = other.water;
            readings = other.readings;
            undos = other.undos;
            kinds.copyFrom(other.kinds);
            roads.copyFrom(other.roads);
            readPlaces.copyFrom(other.readPlaces);
            readMinutes.copyFrom(other.readMinutes);
            oldStands.copyFrom(other.oldStands);
            oldTimes.copyFrom(other.oldTimes);
            oldWaters.copyFrom(other.oldWaters);
        }

        boolean has(int lock) {
            return within(lock, 0, locks - 1);
        }

        int standsOf(int lock) {
            return (stands >> lock) & 1;
        }

        int allLocks() {
            return (1 << locks) - 1;
        }

        void addLock(int kind, int high, int road) {
            kinds.put(locks, kind);
            roads.put(locks, road);
            stands = stands | (high << locks);
            locks++;
            undos = 0;
        }

        void addReading(int place, int minute) {
            readPlaces.put(readings, place);
            readMinutes.put(readings, minute);
            readings++;
        }

        int lockAt(int down, int place) {
            return down == 0 ? place : locks - 1 - place;
        }

        int roadBehind(int down, int place) {
            return roads.get(Math.min(lockAt(down, place), lockAt(down, place + 1)));
        }

        int locksFrom(int down, int place) {
            int set = 0;
            for (int p = place; p < locks; p++) {
                set = set | (1 << lockAt(down, p));
            }
            return set;
        }

        void remember() {
            if (undos >= MAX_UNDOS) {
                oldStands.dropFirst();
                oldTimes.dropFirst();
                oldWaters.dropFirst();
                undos = MAX_UNDOS - 1;
            }
            oldStands.put(undos, stands);
            oldTimes.put(undos, time);
            oldWaters.put(undos, water);
            undos++;
        }

        void goBack() {
            undos--;
            stands = oldStands.get(undos);
            time = oldTimes.get(undos);
            water = oldWaters.get(undos);
        }
    }

    /** One run as it is told, and what came of it place by place; the rows are used again by the next one. */
    private static final class Trip {
        int down = 0;
        int ahead = NOBODY;
        int lead = 1;
        int shut = 0;
        int strength = FIRST_STRENGTH;
        int stands = 0;
        // minutes by which each lock is passed more slowly, as two boats share it
        int longer = 0;
        int minutes = 0;
        int water = 0;
        final Row comes = new Row(MAX_LOCKS);
        final Row goesIn = new Row(MAX_LOCKS);
        final Row goesOut = new Row(MAX_LOCKS);
        final Row done = new Row(MAX_LOCKS);
        final Row made = new Row(MAX_LOCKS);

        void tell(Flight flight, int toldDown, int toldAhead, int toldLead, int toldShut) {
            down = toldDown;
            ahead = toldAhead;
            lead = toldLead;
            shut = toldShut;
            strength = flight.strength;
            stands = flight.stands;
            longer = 0;
        }

        int go(Flight flight) {
            minutes = 0;
            water = 0;
            for (int place = 0; place < flight.locks; place++) {
                int lock = flight.lockAt(down, place);
                int kind = flight.kinds.get(lock);
                int road = place == 0 ? 0 : flight.roadBehind(down, place - 1);
                boolean right = isRight(lock);
                int ready = Kinds.readyMinutes(kind, strength);
                made.put(place, right ? 0 : 1);
                comes.put(place, place == 0 ? 0 : goesOut.get(place - 1) + road);
                if (ahead == NOBODY) {
                    done.put(place, NONE);
                    goesIn.put(place, comes.get(place) + (right ? 0 : ready));
                } else {
                    done.put(place, aheadComes(place, road) + (right ? 0 : ready));
                    enterBehind(place, ready, Kinds.staysMinutes(kind));
                }
                goesOut.put(place, goesIn.get(place) + Kinds.passedMinutes(kind, strength) + longer + 2 * shut);
                minutes = goesOut.get(place);
                water += 1 + made.get(place);
            }
            return minutes;
        }

        /** The run as it would be if the locks of a set stood right from the start. */
        int goWithRight(Flight flight, int set) {
            int before = stands;
            stands = down == 0 ? stands & ~set : stands | set;
            int taken = go(flight);
            stands = before;
            return taken;
        }

        int standsBehind(Flight flight) {
            return down == 0 ? flight.allLocks() : 0;
        }

        private boolean isRight(int lock) {
            return ((stands >> lock) & 1) == down;
        }

        private int aheadComes(int place, int road) {
            if (place == 0) {
                return 0;
            }
            int goesOff = done.get(place - 1);
            if (place >= lead) {
                goesOff = Math.max(goesOff, comes.get(place - lead));
            }
            return goesOff + (ahead == ON_BICYCLE ? halfCutUp(road) : road);
        }

        private void enterBehind(int place, int ready, int stays) {
            int came = comes.get(place);
            boolean leaked = made.get(place) > 0 && stays > 0 && came - done.get(place) > stays;
            if (leaked) {
                made.put(place, 2);
                goesIn.put(place, came + ready);
            } else {
                goesIn.put(place, Math.max(came, done.get(place)));
            }
        }
    }

    /** The text, and how a flight is read from it token by token. */
    private static final class TextReader {
        static final int WANT_FLIGHT = 0, WANT_STRENGTH = 1, WANT_FLIGHT_END = 2, WANT_LOCK = 3;
        static final int WANT_KIND = 4, WANT_STANDS = 5, WANT_ROAD = 6, WANT_LOCK_END = 7, FAULTY = 8;

        int length = 0;
        private final Row bytes = new Row(MAX_TEXT);
        private int kind = 0;
        private int stands = 0;
        private int road = 0;

        void append(int c) {
            bytes.put(length, c);
            length++;
        }

        /** The place of the fault; NONE if there is none, and then the flight stands in what is told. */
        int faultInto(Flight flight) {
            int want = WANT_FLIGHT;
            int start = behindBlanks(0);
            // each token has a byte at least, so there are no more tokens than bytes
            for (int i = 0; i < MAX_TEXT && start < length; i++) {
                int end = tokenEnd(start);
                want = taken(want, start, end, flight);
                if (want == FAULTY) {
                    return start;
                }
                start = behindBlanks(end);
            }
            return want == WANT_LOCK ? NONE : length;
        }

        private int taken(int want, int start, int end, Flight flight) {
            int number = numberAt(start, end);
            switch (want) {
                case WANT_FLIGHT:
                    return isWord(start, end, "flight") ? WANT_STRENGTH : FAULTY;
                case WANT_STRENGTH:
                    if (!within(number, 0, MAX_STRENGTH)) {
                        return FAULTY;
                    }
                    flight.reset(number);
                    return WANT_FLIGHT_END;
                case WANT_FLIGHT_END:
                    return bytes.get(start) == ';' ? WANT_LOCK : FAULTY;
                case WANT_LOCK:
                    return isWord(start, end, "lock") && flight.locks < MAX_LOCKS ? WANT_KIND : FAULTY;
                case WANT_KIND:
                    kind = number;
                    return within(number, 0, LAST_KIND) ? WANT_STANDS : FAULTY;
                case WANT_STANDS:
                    stands = number;
                    return within(number, 0, 1) ? WANT_ROAD : FAULTY;
                case WANT_ROAD:
                    road = number;
                    return within(number, 1, MAX_ROAD) ? WANT_LOCK_END : FAULTY;
                default:
                    if (bytes.get(start) != ';') {
                        return FAULTY;
                    }
                    flight.addLock(kind, stands, road);
                    return WANT_LOCK;
            }
        }

        private int behindBlanks(int start) {
            int place = start;
            while (place < length && bytes.get(place) == ' ') {
                place++;
            }
            return place;
        }

        private int tokenEnd(int start) {
            int place = start + 1;
            if (isLetter(start)) {
                while (place < length && isLetter(place)) {
                    place++;
                }
            } else if (isFigure(start)) {
                while (place < length && isFigure(place)) {
                    place++;
                }
            }
            return place;
        }

        private boolean isLetter(int place) {
            return within(bytes.get(place), 'a', 'z');
        }

        private boolean isFigure(int place) {
            return within(bytes.get(place), '0', '9');
        }

        private boolean isWord(int start, int end, String word) {
            if (end - start != word.length()) {
                return false;
            }
            for (int i = 0; i < word.length(); i++) {
                if (bytes.get(start + i) != word.charAt(i)) {
                    return false;
                }
            }
            return true;
        }

        /** The number that a token is; NONE if it is not one or two figures. */
        private int numberAt(int start, int end) {
            if (!isFigure(start) || end - start > 2) {
                return NONE;
            }
            int number = 0;
            for (int place = start; place < end; place++) {
                number = 10 * number + bytes.get(place) - '0';
            }
            return number;
        }
    }
}
