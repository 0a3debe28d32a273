import java.util.function.Supplier;

/** Objects in the states that bounds depend on; each is made anew, so that two like ones can be compared. */
enum Scenes {
    NEW(LockFlight::new, 0),
    MIDDLING(Scenes::middling, 3),
    FULL(Scenes::full, 8);

    final int locks;
    private final Supplier<LockFlight> maker;

    Scenes(Supplier<LockFlight> maker, int locks) {
        this.maker = maker;
        this.locks = locks;
    }

    LockFlight make() {
        return maker.get();
    }

    /** Some of everything, and room for more; IMAGE 0 alone is kept. */
    private static LockFlight middling() {
        LockFlight x = Check.flight(4, Check.lock(3, 1, 7), Check.lock(5, 0, 12), Check.lock(4, 1, 3));
        x.drawn(77, 4, 1, 2);
        x.reading(2, 40);
        x.run(0, 2, 1, 1);
        x.turn(1);
        x.image(0);
        x.run(1, 1, 2, 0);
        x.reading(0, 0);
        Check.type(x, "flight 7; lock 2 1 5");
        return x;
    }

    /** 8 LOCKS, 6 READINGS, 150 bytes, 8 that may be undone, both IMAGES. */
    private static LockFlight full() {
        LockFlight x = new LockFlight();
        x.flight(9);
        x.lock(1, 0, 20);
        x.image(1);
        for (int i = 1; i < 8; i++) {
            x.lock(i % 6, i / 2 % 2, 1 + i * 2);
        }
        for (int i = 0; i < 6; i++) {
            x.reading(7 - i, 999 - i);
        }
        for (int i = 0; i < 5; i++) {
            x.turn(i);
            x.run(i % 2, i % 3, 1 + i, 1);
        }
        x.image(0);
        x.drawn(999999, 30, 2, 9);
        Check.type(x, "flight 3;lock 4 0 19;" + " ".repeat(129));
        return x;
    }
}
