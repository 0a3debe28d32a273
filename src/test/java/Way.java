/** Flights told by the places of a run, so that one telling makes like runs up and down. */
final class Way {
    static final int RIGHT = 1, WRONG = 0;
    private static final int ROAD_OF_THE_LAST = 20;

    private Way() {
    }

    /** A place: KIND, whether it stands right for the run, the road to the next place. */
    static int[] place(int kind, int right, int road) {
        return new int[] {kind, right, road};
    }

    static int[][] places(int n, int kind, int right, int road) {
        int[][] places = new int[n][];
        for (int p = 0; p < n; p++) {
            places[p] = place(kind, right, road);
        }
        return places;
    }

    static LockFlight flight(int down, int strength, int[]... places) {
        LockFlight x = new LockFlight();
        x.flight(strength);
        for (int lock = 0; lock < places.length; lock++) {
            int p = down == 0 ? lock : places.length - 1 - lock;
            // of the two locks that a road joins, the lesser one has it
            int lesser = down == 0 ? p : p - 1;
            int road = lock == places.length - 1 ? ROAD_OF_THE_LAST : places[lesser][2];
            x.lock(places[p][0], places[p][1] == RIGHT ? down : 1 - down, road);
        }
        return x;
    }
}
