/** Houses that hold something of everything, for calls that must not change any of it. */
final class Houses {
    private static final int NONE = -1;

    static final Maker BLANK = new Maker(House::new);
    static final Maker RICH = new Maker(Houses::rich);
    /** 8 LENSES. */
    static final Maker EIGHT = new Maker(() -> {
        House x = rich();
        while (x.count(0) < 8) {
            x.lens(1);
        }
        x.datum(0, 0, 1);
        return x;
    });
    /** 400 MOVES. */
    static final Maker FULL = new Maker(() -> richWith(400));
    /** 399 of them, so that one has room. */
    static final Maker ALMOST = new Maker(() -> richWith(399));

    private Houses() {
    }

    private static House rich() {
        return richWith(0);
    }

    /**
     * LENSES: 0 with all kinds of MOVES, 1 a branch of it that tells its last CONIC otherwise, 2 with every GLASS, 3 a
     * plain one, on which rounds make MOVES up to a number.
     */
    static House richWith(int moves) {
        House x = new House();
        goods(x);
        x.lens(4);
        x.set(0, 0, 0, 1, 10);
        x.set(0, 1, 0, -1, 20);
        x.set(0, 0, 1, 3, 1);
        x.set(0, 1, 1, 2, 1);
        x.behind(0, 0, 1);
        x.behind(0, 2, 2);
        x.stop(0, 1);
        x.pick(0, 2, 1, 0, 2, 1);
        x.solve(0, 3, 0, -1, 10);
        x.zoom(0, 0, 1, 5, 1);
        x.zoom(0, 0, 3, 7, 1);
        x.coat(0, 0, 0);
        x.coat(0, 2, 1);
        x.set(0, 3, 3, 9, 1);
        x.set(0, NONE, 4, 50, 1);
        x.set(0, NONE, 5, 1, 5);
        x.set(0, NONE, 6, 2, 1);
        x.set(0, 1, 2, 1, 2);
        x.set(0, 1, 2, 1, 3);
        x.undo(0);
        x.branch(17);
        x.set(1, 1, 2, 1, 4);
        x.lens(10);
        x.set(2, NONE, 4, 1, 1);
        for (int s = 0; s < 10; s++) {
            x.behind(2, s, (s + 1) % 8);
        }
        x.coat(2, 5, 2);
        x.lens(1);
        fill(x, 3, moves);
        x.merit(0, "gap 0<4 by 2;focal=30");
        x.merit(1, "curve 1=-1/7");
        x.merit(2, "curve 0=1/7;gap 0=5");
        x.type("gap 0 = 1");
        x.view(0, 1, 1);
        x.vary(0, 0, 1, 100);
        x.vary(1, 1, 1, 3);
        x.tolerance(0, 1, 1, 10);
        x.tolerance(1, 0, 1, 100);
        x.trace(0.25, 0.5, 0.1, 0.2);
        x.spot(2, 0.1, 0.0);
        x.datum(0, 0, 1);
        return x;
    }

    private static void goods(House x) {
        for (int g = 0; g < 8; g++) {
            for (int w = 0; w < 3; w++) {
                x.glass(g, w, 10 + 2 * g + w, 10);
            }
        }
        x.layer(0, 1, 5, 4);
        x.layer(1, 3, 6, 5);
        x.layer(1, 2, 7, 5);
        for (int i = 0; i < 8; i++) {
            x.layer(2, i == 3 ? 1 : 2, 5 + i, 4);
        }
    }

    /** Rounds make five MOVES each on a LENS of one SURFACE, then single ones come up to the number. */
    static void fill(House x, int lens, int moves) {
        if (x.count(1) >= moves) {
            return;
        }
        x.merit(3, "gap 0 = 999999");
        x.view(lens, 0, 0);
        for (int i = 0; i < 5; i++) {
            x.vary(0, 1, 1, 1);
        }
        int rounds = (moves - x.count(1)) / 5;
        while (rounds > 0) {
            x.rounds(3, Math.min(rounds, 20));
            rounds = (moves - x.count(1)) / 5;
        }
        x.forget();
        while (x.count(1) < moves) {
            x.stop(lens, 0);
        }
    }
}
