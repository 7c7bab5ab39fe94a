/** Each promise of the document by its number: ordinary inputs, the edges it names, wrong inputs. */
public final class PromisesTest {
    private static final int NONE = -1, BAD = -2, NO = -3, FULL = -4;
    private static final long FAR = 1L << 40;
    private static int wrong = 0;
    private static int asked = 0;

    private static void due(int promise, String what, long got, long want) {
        asked++;
        if (got != want) {
            wrong++;
            System.out.println("promise " + promise + ": " + what + " answered " + got + ", due is " + want);
        }
    }
    private static void dueD(int promise, String what, double got, double want) {
        asked++;
        if (got != want) {
            wrong++;
            System.out.println("promise " + promise + ": " + what + " answered " + got + ", due is " + want);
        }
    }
    private static void fraction(int promise, String what, OpticalHouse x, int answered, long above, long below) {
        due(promise, what, answered, 1);
        due(promise, what + " above", x.above(), above);
        due(promise, what + " below", x.below(), below);
    }
    private static void lost(int promise, String what, OpticalHouse x, int answered) {
        due(promise, what, answered, 0);
        due(promise, what + " above", x.above(), 0);
        due(promise, what + " below", x.below(), 1);
    }
    private static void feed(OpticalHouse x, String text) {
        int had = x.count(5);
        for (int at = 0; at < text.length(); at += 20) {
            int[] n = new int[5];
            for (int i = 0; i < 20; i++) {
                n[i / 4] = n[i / 4] << 8 | (at + i < text.length() ? text.charAt(at + i) : 0);
            }
            x.feed(n[0], n[1], n[2], n[3], n[4]);
        }
        x.cut(had + text.length());
    }
    private static int merit(OpticalHouse x, int k, String text) {
        feed(x, text);
        return x.merit(k);
    }
    private static String times(int n, String text) {
        return text.repeat(n);
    }

    /** One SURFACE of curvature 1/10 ahead of a glass of 3/2: its focal length is -1 / C = 30. */
    private static OpticalHouse single() {
        OpticalHouse x = new OpticalHouse();
        x.glass(1, 0, 3, 2);
        x.glass(1, 1, 8, 5);
        x.glass(1, 2, 7, 5);
        x.lens(1);
        x.set(0, 0, 0, 1, 10);
        x.set(0, 0, 1, 3, 1);
        x.behind(0, 0, 1);
        x.view(0, 0, 0);
        return x;
    }
    /** A thick lens of 3/2 between curvatures 1/10 and -1/10, 3 thick; moves 0 to 5. */
    private static OpticalHouse thick() {
        OpticalHouse x = new OpticalHouse();
        x.glass(1, 0, 3, 2);
        x.glass(1, 1, 8, 5);
        x.glass(1, 2, 7, 5);
        x.lens(2);
        x.set(0, 0, 0, 1, 10);
        x.set(0, 1, 0, -1, 10);
        x.set(0, 0, 1, 3, 1);
        x.behind(0, 0, 1);
        x.set(0, NONE, 5, 1, 5);
        x.view(0, 0, 0);
        return x;
    }

    private static void newObject() {
        OpticalHouse x = new OpticalHouse();
        for (int what = 0; what < 9; what++) {
            due(1, "count " + what, x.count(what), what == 6 ? NONE : 0);
        }
        due(1, "above", x.above(), 0);
        due(1, "below", x.below(), 1);
        for (int f = 0; f < 4; f++) {
            due(1, "film", x.film(f), 0);
        }
        x.lens(1);
        x.view(0, 0, 0);
        for (int k = 0; k < 4; k++) {
            fraction(1, "value", x, x.value(k), 0, 1);
        }
        due(1, "glass 0 is 1", x.share(0), 1);
        due(1, "other object", new OpticalHouse().count(1), 0);
    }

    private static void tape() {
        OpticalHouse x = new OpticalHouse();
        for (int i = 1; i <= 20; i++) {
            due(2, "feed", x.feed(1, 2, 3, 4, 5), 20 * i);
        }
        due(2, "feed above 400", x.feed(1, 2, 3, 4, 5), FULL);
        due(2, "refused", x.count(5), 400);
        due(3, "cut", x.cut(381), 19);
        due(2, "feed from 381", x.feed(0, 0, 0, 0, 0), FULL);
        due(3, "cut", x.cut(380), 1);
        due(2, "feed from 380", x.feed(0, 0, 0, 0, 0), 400);
        due(3, "cut below 0", x.cut(-1), BAD);
        due(3, "cut above", x.cut(401), BAD);
        due(3, "cut nothing", x.cut(400), 0);
        due(3, "cut all", x.cut(0), 400);
        due(3, "cut 1 of none", x.cut(1), BAD);
        due(3, "cut 0 of none", x.cut(0), 0);
        // "gap 0 = 1" with the highest bytes first
        due(2, "feed", x.feed(0x67617020, 0x30203d20, 0x31000000, 0, 0), 20);
        x.cut(9);
        due(2, "order of bytes", x.merit(0), 1);
        due(2, "bytes above 127", x.feed(-1, 0, 0, 0, 0), 20);
        due(2, "such a byte is no token", x.merit(0), -10);
    }

    private static void fractions() {
        OpticalHouse x = single();
        fraction(4, "datum", x, x.datum(0, 0, 0), 1, 10);
        x.set(0, 0, 0, -6, 4);
        fraction(4, "lowest terms", x, x.datum(0, 0, 0), -3, 2);
        fraction(5, "0 has 1 below", x, x.datum(0, 0, 2), 0, 1);
        x.set(0, 0, 0, 0, 77);
        fraction(5, "0 / 77", x, x.datum(0, 0, 0), 0, 1);
        due(4, "BAD", x.datum(0, 0, 9), BAD);
        due(4, "stays", x.above(), 0);
        x.set(0, 0, 0, 5, 7);
        x.datum(0, 0, 0);
        x.first(99);
        x.told(0, 0);
        x.stable();
        x.trace(0, 0, 0, 0);
        x.spot(1, 0, 0);
        x.glass(2, 0, 9, 8);
        due(4, "stays in calls that tell none", x.above(), 5);
        due(5, "stays in calls that tell none", x.below(), 7);
        lost(4, "LOST is 0 / 1", x, x.first(7));
        // sums and products at 2^62: y u in a gap of 2^39 behind curvatures of 2^39
        long big = FAR - 1;
        x.set(0, 0, 0, big, 1);
        x.set(0, NONE, 6, big, 1);
        lost(4, "a product of 2^80", x, x.ray(0, 2));
        x.set(0, NONE, 6, 1L << 21, 1);
        x.set(0, 0, 0, 1L << 39, 1);
        fraction(4, "a product of 2^60", x, x.ray(0, 2), -(1L << 60), 3);
        x.set(0, NONE, 6, 1L << 23, 1);
        lost(4, "a product of 2^62", x, x.ray(0, 2));
        x.set(0, NONE, 6, -(1L << 23), 1);
        lost(4, "a product of -2^62", x, x.ray(0, 2));
        // a sum: y + (t u') by fractions whose belows share nothing
        x = new OpticalHouse();
        x.lens(2);
        x.view(0, 0, 0);
        x.set(0, NONE, 6, 1, (1L << 31) - 1);
        x.set(0, NONE, 4, 1, 1);
        x.set(0, 0, 1, 1, 1L << 30);
        fraction(4, "a sum below 2^62", x, x.ray(1, 0), (1L << 30) + 1, ((1L << 31) - 1) << 30);
        x.set(0, 0, 1, 1, 1L << 31);
        fraction(4, "likewise", x, x.ray(1, 0), (1L << 31) + 1, ((1L << 31) - 1) << 31);
        x.set(0, 0, 1, 1, 1L << 32);
        lost(4, "below 2^63", x, x.ray(1, 0));
    }

    /** Sums and products at the very edge: y c in a bend of one, y + (t u') with u' = y. */
    private static void farFractions() {
        OpticalHouse x = new OpticalHouse();
        x.glass(1, 0, 2, 1);
        x.lens(2);
        x.view(0, 0, 0);
        x.behind(0, 0, 1);
        x.set(0, 0, 0, (1L << 31) - 1, 1);
        long edge = (1L << 62) - 1;
        x.set(0, NONE, 6, (1L << 31) + 1, 1);
        fraction(4, "2^62 - 1", x, x.ray(0, 2), -edge, 2);
        x.set(0, NONE, 6, -(1L << 31) - 1, 1);
        fraction(4, "1 - 2^62", x, x.ray(0, 2), edge, 2);
        x.set(0, 0, 0, 0, 1);
        x.behind(0, 0, 0);
        x.set(0, NONE, 4, 1, 1);
        for (int sign = -1; sign < 2; sign += 2) {
            x.set(0, NONE, 6, sign * (1L << 31), 1);
            x.set(0, 0, 1, (1L << 30) - 1, (1L << 30) + 1);
            lost(4, "a sum of 2^62", x, x.ray(1, 0));
            x.set(0, 0, 1, (1L << 30) - 2, (1L << 30) + 1);
            fraction(4, "a sum of 2^62 - 2^31", x, x.ray(1, 0), sign * ((1L << 62) - (1L << 31)), (1L << 30) + 1);
            x.set(0, 0, 1, -1, (1L << 31) + 1);
            lost(4, "a part of 2^62 and more", x, x.ray(1, 0));
        }
    }

    private static void glasses() {
        OpticalHouse x = single();
        due(6, "glass", x.glass(7, 2, 3, 2), 1);
        due(6, "glass 8", x.glass(8, 0, 3, 2), BAD);
        due(6, "glass -1", x.glass(-1, 0, 3, 2), BAD);
        due(6, "wave 3", x.glass(0, 3, 3, 2), BAD);
        due(6, "wave -1", x.glass(0, -1, 3, 2), BAD);
        due(6, "0", x.glass(0, 0, 0, 2), BAD);
        due(6, "below 0", x.glass(0, 0, -1, 2), BAD);
        due(6, "below is 0", x.glass(0, 0, 1, 0), BAD);
        due(6, "both below 0", x.glass(0, 0, -3, -2), BAD);
        due(6, "2^40", x.glass(0, 0, FAR, 1), BAD);
        due(6, "2^40 as told", x.glass(0, 0, FAR, FAR), BAD);
        due(6, "least long", x.glass(0, 0, Long.MIN_VALUE, 1), BAD);
        due(6, "2^40 - 1", x.glass(6, 0, FAR - 1, FAR - 1), 1);
        fraction(6, "refused ones changed nothing", x, x.first(2), -1, 30);
        x.glass(1, 0, 2, 1);
        fraction(6, "the index counts at once", x, x.first(2), -1, 20);
        x.glass(0, 0, 4, 1);
        fraction(6, "glass 0 is ahead", x, x.first(2), 1, 10);
        due(7, "film -1", x.film(-1), BAD);
        due(7, "film 4", x.film(4), BAD);
        for (int i = 1; i <= 8; i++) {
            due(8, "layer", x.layer(2, i - 1, i, 3), i);
        }
        due(8, "a ninth", x.layer(2, 0, 1, 1), FULL);
        due(8, "BAD before FULL", x.layer(2, 8, 1, 1), BAD);
        due(8, "quarters -1", x.layer(1, -1, 1, 1), BAD);
        due(8, "index 0", x.layer(1, 1, 0, 1), BAD);
        due(8, "index below 0", x.layer(1, 1, -1, 1), BAD);
        due(8, "film 4", x.layer(4, 1, 1, 1), BAD);
        due(8, "film -1", x.layer(-1, 1, 1, 1), BAD);
        due(8, "below 0", x.layer(1, 1, 1, -1), BAD);
        due(7, "film", x.film(2), 8);
        due(7, "again", x.film(2), 0);
        due(8, "another film has none", x.film(1), 0);
        due(8, "room again", x.layer(2, 7, 1, 1), 1);
    }

    private static void lenses() {
        OpticalHouse x = new OpticalHouse();
        due(9, "0 surfaces", x.lens(0), BAD);
        due(9, "11 surfaces", x.lens(11), BAD);
        due(9, "-1 surfaces", x.lens(-1), BAD);
        for (int i = 0; i < 8; i++) {
            due(9, "lens", x.lens(i + 3), i);
        }
        due(9, "a ninth", x.lens(1), FULL);
        due(9, "BAD before FULL", x.lens(0), BAD);
        due(9, "moves", x.count(1), 8);
        due(9, "no film", x.move(3, 4), 6);
        x = new OpticalHouse();
        x.lens(2);
        for (int i = 1; i < 400; i++) {
            due(12, "stop", x.stop(0, i % 2), i);
        }
        due(9, "400 moves", x.lens(1), FULL);
        due(10, "400 moves", x.set(0, 0, 0, 1, 1), FULL);
        due(10, "BAD before FULL", x.set(0, 0, 0, 1, 0), BAD);
        due(11, "400 moves", x.behind(0, 0, 1), FULL);
        due(12, "400 moves", x.stop(0, 1), FULL);
        due(13, "400 moves", x.pick(0, 1, 0, 0, 1, 1), FULL);
        due(14, "400 moves", x.solve(0, 0, 0, 1, 1), FULL);
        due(15, "400 moves", x.zoom(0, 0, 1, 1, 1), FULL);
        due(16, "400 moves", x.coat(0, 0, 1), FULL);
        due(17, "400 moves", x.undo(0), FULL);
        due(18, "400 moves", x.branch(0), FULL);
        due(12, "refused", x.told(0, 2), 1);
        due(50, "moves", x.count(1), 400);
        due(50, "bytes", x.count(2), 9200);
        due(49, "400 moves again", x.open(), 400);
    }

    private static void moves() {
        OpticalHouse x = new OpticalHouse();
        due(10, "no lens", x.set(0, 0, 0, 1, 1), BAD);
        x.lens(3);
        for (int sort = 0; sort < 4; sort++) {
            due(10, "set", x.set(0, 2, sort, 3, 6), 1 + sort);
            fraction(22, "datum", x, x.datum(0, 2, sort), 1, 2);
            due(23, "how", x.how(0, 2, sort), 0);
        }
        for (int sort = 4; sort < 7; sort++) {
            due(10, "set", x.set(0, NONE, sort, 5, 10), 1 + sort);
            due(10, "of a surface", x.set(0, 0, sort, 1, 1), BAD);
            fraction(22, "datum", x, x.datum(0, NONE, sort), 1, 2);
            due(22, "of a surface", x.datum(0, 0, sort), BAD);
            due(23, "of the lens", x.how(0, NONE, sort), BAD);
            due(23, "of the lens at 0", x.how(0, 0, sort), BAD);
        }
        due(10, "surface 3", x.set(0, 3, 0, 1, 1), BAD);
        due(10, "no surface", x.set(0, NONE, 0, 1, 1), BAD);
        due(10, "surface -2", x.set(0, -2, 4, 1, 1), BAD);
        due(10, "sort 7", x.set(0, NONE, 7, 1, 1), BAD);
        due(10, "sort -1", x.set(0, 0, -1, 1, 1), BAD);
        due(10, "half below 0", x.set(0, 0, 3, -1, 1), BAD);
        due(10, "object below 0", x.set(0, NONE, 4, -1, 1), BAD);
        due(10, "field below 0", x.set(0, NONE, 5, -1, 1), 8);
        due(10, "beam below 0", x.set(0, NONE, 6, -1, 1), 9);
        due(10, "half 0", x.set(0, 0, 3, 0, 1), 10);
        due(10, "2^40", x.set(0, 0, 0, FAR, 1), BAD);
        due(10, "-2^40", x.set(0, 0, 0, -FAR, 1), BAD);
        due(10, "below 2^40", x.set(0, 0, 0, 1, FAR), BAD);
        due(10, "lens 1", x.set(1, 0, 0, 1, 1), BAD);
        due(10, "lens -1", x.set(-1, 0, 0, 1, 1), BAD);
        due(11, "behind", x.behind(0, 0, 8), 11);
        due(11, "behind", x.behind(0, 1, 0), 12);
        due(11, "9", x.behind(0, 0, 9), BAD);
        due(11, "-1", x.behind(0, 0, -1), BAD);
        due(11, "surface", x.behind(0, 3, 1), BAD);
        due(11, "lens", x.behind(1, 0, 1), BAD);
        due(12, "stop", x.stop(0, 2), 13);
        due(12, "surface", x.stop(0, 3), BAD);
        due(12, "surface", x.stop(0, -1), BAD);
        due(12, "lens", x.stop(8, 0), BAD);
        due(13, "pick", x.pick(0, 2, 0, 1, -4, 2), 14);
        due(23, "picked up", x.how(0, 2, 0), 2);
        fraction(22, "so many times", x, x.datum(0, 2, 0), -2, 1);
        due(13, "from itself", x.pick(0, 1, 0, 1, 1, 1), BAD);
        due(13, "from behind", x.pick(0, 1, 0, 2, 1, 1), BAD);
        due(13, "from -1", x.pick(0, 1, 0, -1, 1, 1), BAD);
        due(13, "sort 3", x.pick(0, 1, 3, 0, 1, 1), BAD);
        due(13, "conic", x.pick(0, 1, 2, 0, 0, 1), 15);
        due(13, "fraction", x.pick(0, 1, 2, 0, 1, 0), BAD);
        due(13, "surface", x.pick(0, 3, 0, 0, 1, 1), BAD);
        due(14, "solve", x.solve(0, 2, 0, -1, 3), 16);
        due(23, "solved", x.how(0, 2, 0), 20);
        fraction(22, "solved for", x, x.datum(0, 2, 0), -1, 3);
        due(14, "gap", x.solve(0, 2, 1, 0, 3), 17);
        due(14, "conic", x.solve(0, 2, 2, 0, 3), BAD);
        due(14, "sort", x.solve(0, 2, -1, 0, 3), BAD);
        due(14, "fraction", x.solve(0, 2, 1, 0, -3), BAD);
        due(14, "surface", x.solve(0, NONE, 1, 0, 3), BAD);
        due(15, "zoom", x.zoom(0, 0, 3, 1, 3), 18);
        due(15, "state 0", x.zoom(0, 0, 0, 1, 3), BAD);
        due(15, "state 4", x.zoom(0, 0, 4, 1, 3), BAD);
        due(15, "surface", x.zoom(0, 3, 1, 1, 3), BAD);
        due(15, "fraction", x.zoom(0, 0, 1, FAR, 3), BAD);
        due(16, "coat", x.coat(0, 0, 3), 19);
        due(16, "none", x.coat(0, 0, NONE), 20);
        due(16, "4", x.coat(0, 0, 4), BAD);
        due(16, "-2", x.coat(0, 0, -2), BAD);
        due(16, "255", x.coat(0, 0, 255), BAD);
        due(16, "surface", x.coat(0, 3, 0), BAD);
        due(21, "surfaces", x.told(0, 0), 3);
        due(21, "head", x.told(0, 1), 20);
        due(21, "stop", x.told(0, 2), 2);
        due(21, "way", x.told(0, 3), 21);
        due(21, "mirrors", x.told(0, 4), 1);
        due(21, "5", x.told(0, 5), BAD);
        due(21, "-1", x.told(0, -1), BAD);
        due(21, "lens", x.told(1, 0), BAD);
        due(22, "lens", x.datum(1, 0, 0), BAD);
        due(22, "no surface", x.datum(0, NONE, 0), BAD);
        due(22, "sort", x.datum(0, NONE, 7), BAD);
        due(23, "sort", x.how(0, 0, -1), BAD);
        due(23, "surface", x.how(0, 3, 0), BAD);
        moveData(x);
    }

    private static void moveData(OpticalHouse x) {
        int[][] want = {{0, 0, 0, NONE, NONE, 3}, {4, 1, 0, 3, 2, 3}, {5, 1, 0, 4, NONE, 4}, {11, 2, 0, 10, 0, 8},
            {13, 3, 0, 12, 2, NONE}, {14, 4, 0, 13, 2, 0}, {16, 5, 0, 15, 2, 0}, {18, 6, 0, 17, 0, 3},
            {19, 7, 0, 18, 0, 3}, {20, 7, 0, 19, 0, NONE}};
        for (int[] row : want) {
            for (int what = 0; what < 5; what++) {
                due(24, "move " + row[0] + ", " + what, x.move(row[0], what), row[what + 1]);
            }
        }
        due(24, "no move", x.move(21, 0), BAD);
        due(24, "no move", x.move(-1, 0), BAD);
        due(24, "5", x.move(0, 5), BAD);
        due(24, "-1", x.move(0, -1), BAD);
        due(17, "undo", x.undo(0), 21);
        due(24, "kind 8", x.move(21, 0), 8);
        due(24, "what it tells", x.move(21, 2), 19);
        due(24, "no surface", x.move(21, 3), NONE);
        due(24, "nothing else", x.move(21, 4), NONE);
    }

    private static void undoing() {
        OpticalHouse x = new OpticalHouse();
        due(17, "no lens", x.undo(0), BAD);
        due(18, "no move", x.branch(0), BAD);
        x.lens(2);
        due(17, "a move 0", x.undo(0), NO);
        x.set(0, 0, 0, 1, 3);
        x.pick(0, 1, 0, 0, 2, 1);
        x.set(0, 1, 0, 7, 1);
        due(17, "undo", x.undo(0), 4);
        due(17, "the pick up stands again", x.how(0, 1, 0), 1);
        due(17, "undo", x.undo(0), 5);
        due(17, "told 0 again", x.how(0, 1, 0), 0);
        due(21, "head", x.told(0, 1), 1);
        due(21, "way", x.told(0, 3), 2);
        due(18, "branch", x.branch(3), 1);
        due(18, "of a move 8", x.branch(4), BAD);
        due(18, "of none", x.branch(7), BAD);
        due(18, "of -1", x.branch(-1), BAD);
        fraction(18, "as it was then", x, x.datum(1, 1, 0), 7, 1);
        due(21, "way", x.told(1, 3), 4);
        due(17, "undo in the branch", x.undo(1), 7);
        due(17, "how", x.how(1, 1, 0), 1);
        due(24, "lens of the move", x.move(7, 1), 1);
        x.set(1, 0, 0, 9, 1);
        fraction(18, "the other one stays", x, x.datum(0, 0, 0), 1, 3);
        for (int i = 2; i < 8; i++) {
            due(18, "branch", x.branch(0), i);
        }
        due(18, "a ninth", x.branch(0), FULL);
        due(18, "BAD before FULL", x.branch(4), BAD);
        due(17, "a branch of a move 0", x.undo(7), NO);
    }

    private static void merging() {
        OpticalHouse x = new OpticalHouse();
        x.lens(2);
        x.set(0, 0, 0, 1, 3);
        x.branch(1);
        due(19, "no lens", x.merge(0, 2), BAD);
        due(19, "no lens", x.merge(-1, 0), BAD);
        due(19, "the same", x.merge(0, 0), 0);
        due(19, "nothing behind", x.merge(0, 1), 0);
        x.set(0, 0, 1, 1, 1);
        x.behind(0, 0, 2);
        x.stop(0, 1);
        x.zoom(0, 0, 1, 4, 1);
        x.coat(0, 1, 2);
        x.set(0, NONE, 4, 6, 1);
        x.set(1, 0, 1, 2, 1);
        x.behind(1, 0, 3);
        x.stop(1, 0);
        x.zoom(1, 0, 1, 5, 1);
        x.coat(1, 1, NONE);
        x.solve(1, 0, 1, 6, 1);
        x.set(1, NONE, 4, 7, 1);
        x.set(1, NONE, 5, 7, 1);
        x.zoom(1, 0, 2, 5, 1);
        int had = x.count(1);
        due(19, "six conflicts", x.merge(0, 1), -16);
        due(19, "either way", x.merge(1, 0), -16);
        due(19, "refused", x.count(1), had);
        x.set(1, 0, 1, 2, 2);
        due(19, "the last ones count", x.merge(0, 1), -15);
        x.behind(1, 0, 2);
        x.stop(0, 0);
        x.zoom(0, 0, 1, 10, 2);
        x.coat(0, 1, NONE);
        x.set(1, NONE, 4, 6, 1);
        due(19, "all alike", x.merge(0, 1), 12);
        due(20, "the same then", x.same(0, 1) ? 1 : 0, 1);
        due(19, "moves of its own", x.move(x.count(1) - 1, 1), 0);
        due(19, "one behind another", x.move(x.count(1) - 1, 2), x.count(1) - 2);
        due(19, "both ways from the parting", x.merge(1, 0), 21);
        x.lens(2);
        due(19, "nothing in common", x.merge(0, 2), NO);
        due(19, "nothing in common", x.merge(2, 0), NO);
        for (int i = x.count(1); i < 399; i++) {
            x.stop(2, i % 2);
        }
        x.branch(1);
        due(19, "no room", x.merge(3, 0), FULL);
    }

    private static void mergingFull() {
        OpticalHouse x = new OpticalHouse();
        x.lens(1);
        x.branch(0);
        for (int i = 2; i < 398; i++) {
            x.stop(0, 0);
        }
        x.stop(1, 0);
        due(19, "first has 1, second 396", x.merge(1, 0), FULL);
        due(19, "refused", x.count(1), 399);
        due(19, "one move still", x.merge(0, 1), 1);
        due(19, "none more", x.merge(0, 1), FULL);
    }

    /** All that can be told of a LENS of ten, by numbers that two tellers make unlike. */
    private static void tellAll(OpticalHouse x, int lens, int by, boolean numbers, boolean zooms) {
        for (int s = 9; s >= 0; s--) {
            if (numbers) {
                x.behind(lens, s, by);
                x.coat(lens, s, by);
                x.set(lens, s, 0, by, 1);
                x.solve(lens, s, 1, by, 1);
                x.set(lens, s, 2, by, 1);
                x.set(lens, s, 3, by, 1);
            }
            for (int state = 1; state < 4 && zooms; state++) {
                x.zoom(lens, s, state, by, 1);
            }
        }
        for (int sort = 4; sort < 7 && numbers; sort++) {
            x.set(lens, NONE, sort, by + 1, 1);
        }
        if (numbers) {
            x.stop(lens, by);
        }
    }
    private static void mergingAll() {
        OpticalHouse x = new OpticalHouse();
        x.lens(10);
        x.branch(0);
        tellAll(x, 0, 1, true, true);
        tellAll(x, 1, 2, true, true);
        due(19, "each of 94 things", x.merge(0, 1), -10 - 94);
        x = new OpticalHouse();
        x.lens(10);
        x.branch(0);
        tellAll(x, 0, 1, true, false);
        tellAll(x, 1, 2, false, true);
        due(19, "things apart", x.merge(0, 1), 30);
        due(19, "things apart", x.merge(1, 0), 94);
        due(20, "same", x.same(0, 1) ? 1 : 0, 1);
    }

    private static void sameness() {
        OpticalHouse x = new OpticalHouse();
        due(20, "none", x.same(0, 0) ? 1 : 0, 0);
        x.lens(2);
        x.lens(2);
        x.lens(3);
        due(20, "same", x.same(0, 1) ? 1 : 0, 1);
        due(20, "itself", x.same(2, 2) ? 1 : 0, 1);
        due(20, "surfaces", x.same(0, 2) ? 1 : 0, 0);
        due(20, "none", x.same(0, 3) ? 1 : 0, 0);
        due(20, "none", x.same(-1, 0) ? 1 : 0, 0);
        int[] before = {0, 0, 0, 0, 0, 0, 0, 0};
        for (int kind = 0; kind < 8; kind++) {
            before[kind] = x.count(1);
            switch (kind) {
                case 0 -> x.set(0, 1, 2, 1, 2);
                case 1 -> x.set(0, NONE, 5, 1, 2);
                case 2 -> x.behind(0, 1, 1);
                case 3 -> x.stop(0, 1);
                case 4 -> x.pick(0, 1, 1, 0, 0, 1);
                case 5 -> x.solve(0, 1, 1, 0, 1);
                case 6 -> x.zoom(0, 1, 1, 0, 1);
                default -> x.coat(0, 1, 0);
            }
            due(20, "kind " + kind, x.same(0, 1) ? 1 : 0, 0);
            x.undo(0);
            due(20, "undone " + kind, x.same(0, 1) ? 1 : 0, 1);
        }
        x.set(0, 0, 0, 2, 4);
        due(20, "the first curvature", x.same(0, 1) ? 1 : 0, 0);
        x.set(1, 0, 0, 5, 1);
        x.set(1, 0, 0, 3, 6);
        due(20, "by another way", x.same(1, 0) ? 1 : 0, 1);
    }

    private static void viewing() {
        OpticalHouse x = thick();
        x.lens(1);
        due(25, "lens", x.view(2, 0, 0), BAD);
        due(25, "lens", x.view(-1, 0, 0), BAD);
        due(25, "state", x.view(0, 4, 0), BAD);
        due(25, "state", x.view(0, -1, 0), BAD);
        due(25, "wave", x.view(0, 0, 3), BAD);
        due(25, "wave", x.view(0, 0, -1), BAD);
        x.vary(0, 0, 1, 1);
        x.tolerance(0, 0, 1, 1);
        due(25, "view", x.view(0, 3, 2), 1);
        due(25, "variables stay", x.count(3) + x.count(4), 2);
        due(50, "lens", x.count(6), 0);
        due(50, "state", x.count(7), 3);
        due(50, "wave", x.count(8), 2);
        due(25, "refused", x.view(1, 9, 0), BAD);
        due(25, "refused", x.count(3), 1);
        due(25, "another", x.view(1, 0, 0), 1);
        due(25, "variables go", x.count(3) + x.count(4), 0);
        due(25, "view", x.view(0, 0, 1), 1);
        fraction(25, "by wave 1", x, x.ray(0, 2), -3, 80);
        due(25, "view", x.view(0, 0, 2), 1);
        fraction(25, "by wave 2", x, x.ray(0, 2), -1, 35);
    }

    /** By hand: at 0 u' = -1/30, y = 9/10 at 1, u' there (3/2)(-1/30) - (9/10)(1/20) = -19/200. */
    private static void firsts() {
        OpticalHouse x = thick();
        fraction(28, "y", x, x.ray(0, 0), 1, 1);
        fraction(28, "u", x, x.ray(0, 1), 0, 1);
        fraction(28, "u'", x, x.ray(0, 2), -1, 30);
        fraction(28, "y", x, x.ray(1, 0), 9, 10);
        fraction(28, "u", x, x.ray(1, 1), -1, 30);
        fraction(28, "u'", x, x.ray(1, 2), -19, 200);
        fraction(28, "chief y", x, x.ray(0, 3), 0, 1);
        fraction(28, "chief u", x, x.ray(0, 4), 1, 5);
        fraction(28, "chief u'", x, x.ray(0, 5), 2, 15);
        fraction(28, "chief y", x, x.ray(1, 3), 2, 5);
        fraction(28, "chief u'", x, x.ray(1, 5), 9, 50);
        fraction(26, "A", x, x.first(0), 9, 10);
        fraction(26, "B", x, x.first(1), 2, 1);
        fraction(26, "C", x, x.first(2), -19, 200);
        fraction(26, "D", x, x.first(3), 9, 10);
        fraction(26, "focal", x, x.first(4), 200, 19);
        fraction(26, "back", x, x.first(5), 180, 19);
        fraction(26, "image", x, x.first(6), 180, 19);
        lost(26, "mag, far away", x, x.first(7));
        fraction(26, "entrance", x, x.first(8), 0, 1);
        fraction(26, "exit", x, x.first(9), -20, 9);
        fraction(26, "invariant", x, x.first(10), -1, 5);
        fraction(26, "number", x, x.first(11), 100, 19);
        fraction(26, "A + D", x, x.first(12), 9, 5);
        due(26, "13", x.first(13), BAD);
        due(26, "-1", x.first(-1), BAD);
        due(28, "surface", x.ray(2, 0), BAD);
        due(28, "surface", x.ray(NONE, 0), BAD);
        due(28, "6", x.ray(0, 6), BAD);
        due(28, "-1", x.ray(0, -1), BAD);
        due(33, "stable", x.stable(), 1);
        x.set(0, NONE, 4, 10, 1);
        x.stop(0, 1);
        // A 9/10, B 2 at the stop: u = -(9/50) / 11 = -9/550, y = 1/5 - 9/55 = 2/55
        fraction(28, "chief u", x, x.ray(0, 4), -9, 550);
        fraction(28, "chief y", x, x.ray(0, 3), 2, 55);
        fraction(28, "the stop's middle", x, x.ray(1, 3), 0, 1);
        fraction(28, "marginal u", x, x.ray(0, 1), 1, 10);
        // u' at 0: (1/10 - 1/20) / (3/2) = 1/30, y 11/10, u' at 1: 3/2 / 30 - 11/200 = -1/200
        fraction(26, "mag", x, x.first(7), -20, 1);
        fraction(26, "image", x, x.first(6), 220, 1);
        OpticalHouse none = new OpticalHouse();
        none.lens(1);
        due(26, "no view", none.first(0), BAD);
        due(27, "no view", none.worked(0, 0), BAD);
        due(28, "no view", none.ray(0, 0), BAD);
        due(29, "no view", none.term(0, 0), BAD);
        due(30, "no view", none.ghost(0, 0, 0), BAD);
        due(31, "no view", none.share(0), BAD);
        due(32, "no view", none.beam(1, 1, 1, 1, 0), BAD);
        due(33, "no view", none.stable(), BAD);
        due(34, "no view", none.trace(0, 0, 0, 0), BAD);
        due(36, "no view", none.spot(1, 0, 0), BAD);
        due(39, "no view", none.value(0), BAD);
        due(40, "no view", none.vary(0, 0, 1, 1), BAD);
        due(41, "no view", none.rounds(0, 0), BAD);
        due(42, "no view", none.tolerance(0, 0, 1, 1), BAD);
        due(43, "no view", none.worse(0, 0, 0), BAD);
        due(44, "no view", none.draws(0, 0, 0, 1, 1), BAD);
        due(45, "no view", none.forget(), 0);
    }

    private static void stability() {
        OpticalHouse x = new OpticalHouse();
        x.lens(1);
        x.view(0, 0, 0);
        due(33, "A + D is 2", x.stable(), 0);
        x.behind(0, 0, 8);
        due(33, "a flat mirror: 1 and -1", x.stable(), 1);
        x.glass(1, 0, 2, 1);
        x.behind(0, 0, 1);
        due(33, "1 and 1/2", x.stable(), 1);
        x.glass(1, 0, 1, 3);
        due(33, "1 and 3", x.stable(), 0);
        x.lens(2);
        x.view(1, 0, 0);
        x.solve(1, 0, 1, 0, 1);
        due(33, "LOST", x.stable(), NO);
        due(33, "the fraction stays", x.below(), 1);
    }

    private static void works() {
        OpticalHouse x = thick();
        fraction(27, "curve", x, x.worked(1, 0), -1, 10);
        fraction(27, "gap", x, x.worked(0, 1), 3, 1);
        fraction(27, "conic", x, x.worked(0, 2), 0, 1);
        due(27, "3", x.worked(0, 3), BAD);
        due(27, "-1", x.worked(0, -1), BAD);
        due(27, "surface", x.worked(2, 0), BAD);
        due(27, "surface", x.worked(NONE, 0), BAD);
        x.pick(0, 1, 0, 0, -3, 1);
        fraction(27, "picked up", x, x.worked(1, 0), -3, 10);
        x.zoom(0, 0, 2, 5, 1);
        fraction(27, "state 0", x, x.worked(0, 1), 3, 1);
        x.view(0, 1, 0);
        fraction(27, "state 1", x, x.worked(0, 1), 3, 1);
        x.view(0, 2, 0);
        fraction(27, "state 2", x, x.worked(0, 1), 5, 1);
        x.pick(0, 1, 1, 0, 2, 1);
        fraction(27, "a gap picked up from it", x, x.worked(1, 1), 10, 1);
        x.set(0, 0, 1, 4, 1);
        fraction(27, "the zoom stays", x, x.worked(0, 1), 5, 1);
        x.solve(0, 0, 1, 0, 1);
        fraction(27, "solved: y 0 at 1", x, x.worked(0, 1), 30, 1);
        lost(27, "then a curve can't be", x, x.solve(0, 1, 0, 1, 1) > 0 ? x.worked(1, 0) : 9);
        x.set(0, 0, 1, 3, 1);
        x.view(0, 0, 2);
        // by WAVE 0: y 9/10, N u = -1/20; ((-1/20) - (-1/10)) / ((9/10)(-1/2)) = -1/9
        x.solve(0, 1, 0, -1, 10);
        fraction(27, "solved by wave 0", x, x.worked(1, 0), -1, 9);
        x.pick(0, 1, 2, 0, 5, 1);
        x.set(0, 0, 2, -1, 3);
        fraction(27, "conic picked up", x, x.worked(1, 2), -5, 3);
        x.set(0, 0, 0, 0, 1);
        x.solve(0, 0, 1, 0, 1);
        lost(27, "u' is 0", x, x.worked(0, 1));
        fraction(27, "what does not hang on it", x, x.worked(1, 2), -5, 3);
        lost(27, "what does", x, x.worked(1, 0));
    }

    /** By hand for one SURFACE: P = 1/10, Q = 1/5, R = -1/45 - 0, H = -1/5. */
    private static void terms() {
        OpticalHouse x = single();
        x.set(0, NONE, 5, 1, 5);
        fraction(29, "0", x, x.term(0, 0), 1, 4500);
        fraction(29, "1: R without the chief's", x, x.term(0, 1), 1, 2250);
        fraction(29, "2", x, x.term(0, 2), 1, 1125);
        // -(1/25)(1/10)(2/3 - 1)
        fraction(29, "3", x, x.term(0, 3), 1, 750);
        fraction(29, "4", x, x.term(0, 4), 1, 225);
        // (1/10)((1/5) / (3/2))
        fraction(29, "5", x, x.term(0, 5), 1, 75);
        fraction(29, "6", x, x.term(0, 6), 2, 75);
        fraction(29, "sum", x, x.term(NONE, 6), 2, 75);
        due(29, "7", x.term(0, 7), BAD);
        due(29, "-1", x.term(0, -1), BAD);
        due(29, "surface", x.term(1, 0), BAD);
        due(29, "surface", x.term(-2, 0), BAD);
        due(29, "7 of none", x.term(NONE, 7), BAD);
        x.set(0, 0, 2, 2, 1);
        // W = 2 (1/1000) (1/2) = 1/1000
        fraction(29, "0 with a conic", x, x.term(0, 0), 11, 9000);
        fraction(29, "1 with a conic: chief y is 0", x, x.term(0, 1), 1, 2250);
        fraction(29, "3 with a conic", x, x.term(0, 3), 1, 750);
    }

    private static void shares() {
        OpticalHouse x = thick();
        x.view(0, 0, 1);
        fraction(31, "1 and 3/2, by wave 0", x, x.share(0), 1, 25);
        fraction(31, "3/2 and 1", x, x.share(1), 1, 25);
        due(31, "surface", x.share(2), BAD);
        due(31, "surface", x.share(NONE), BAD);
        x.coat(0, 0, 1);
        fraction(31, "a film without layers", x, x.share(0), 1, 25);
        x.layer(1, 2, 5, 1);
        fraction(31, "even quarters", x, x.share(0), 1, 25);
        x.layer(1, 1, 5, 4);
        // p = (3/2) / (5/4) = 6/5, q = 5/4: s = (-1/20) / (49/20)
        fraction(31, "a quarter", x, x.share(0), 1, 2401);
        x.layer(1, 7, 2, 1);
        // from the last one: p = 3/4, q = 2; then p = 8/5, q = 15/16: s = (53/80) / (203/80)
        fraction(31, "two quarters, the last one first", x, x.share(0), 2809, 41209);
        x.coat(0, 0, NONE);
        fraction(31, "without", x, x.share(0), 1, 25);
        x.behind(0, 0, 8);
        fraction(31, "a mirror", x, x.share(0), 1, 1);
        x.coat(0, 0, 1);
        fraction(31, "a mirror with a film", x, x.share(0), 1, 1);
        x.behind(0, 1, 1);
        fraction(31, "behind a mirror, without signs", x, x.share(1), 1, 25);
    }

    private static void ghosts() {
        OpticalHouse x = thick();
        // at 1: ((3/2)(-1/30) - (9/10)(-1/10)(-3)) / (-3/2) = 16/75; back 3: y = 9/10 - 16/25 = 13/50
        // at 0: N = -3/2, N' = 3/2: ((-3/2)(16/75) - (13/50)(1/10)(3)) / (3/2) = -199/750
        // on to 1: y = 13/50 - 199/250 = -67/125; u' = (3/2)(-199/750) - (-67/125)(-1/10)(-1/2) = -232/625
        fraction(30, "place", x, x.ghost(0, 1, 0), -335, 232);
        fraction(30, "power", x, x.ghost(0, 1, 1), 24 * 24, 625 * 625);
        due(30, "the other way", x.ghost(1, 0, 0), BAD);
        due(30, "the same", x.ghost(1, 1, 0), BAD);
        due(30, "2", x.ghost(0, 1, 2), BAD);
        due(30, "-1", x.ghost(0, 1, -1), BAD);
        due(30, "surface", x.ghost(0, 2, 0), BAD);
        due(30, "surface", x.ghost(NONE, 1, 0), BAD);
        x.behind(0, 0, 8);
        due(30, "a mirror ahead", x.ghost(0, 1, 0), BAD);
        x.behind(0, 0, 1);
        x.behind(0, 1, 8);
        due(30, "a mirror behind", x.ghost(0, 1, 0), BAD);
        x.lens(3);
        x.behind(1, 0, 1);
        x.behind(1, 1, 8);
        x.view(1, 0, 0);
        // surface 2 has GLASS 0 behind, 3/2 ahead; the mirror between counts 1 each time
        fraction(30, "power past a mirror", x, x.ghost(0, 2, 1), 24 * 24, 625 * 625);
        lost(30, "all flat: u' is 0", x, x.ghost(0, 2, 0));
    }

    private static void beams() {
        OpticalHouse x = new OpticalHouse();
        x.lens(1);
        x.view(0, 0, 0);
        fraction(32, "nothing", x, x.beam(1, 2, 3, 1, 0), 1, 2);
        fraction(32, "nothing", x, x.beam(1, 2, 3, 1, 1), 3, 1);
        x.glass(1, 0, 3, 2);
        x.set(0, 0, 0, 1, 1);
        x.behind(0, 0, 1);
        // A 1, B 0, C -1/3, D 2/3; x 1, z 1: e 1, f 1, g 1/3, h -1/3, w 2/9
        fraction(32, "part 0", x, x.beam(1, 1, 1, 1, 0), 0, 1);
        fraction(32, "part 1", x, x.beam(1, 1, 1, 1, 1), 3, 1);
        due(32, "part 2", x.beam(1, 1, 1, 1, 2), BAD);
        due(32, "part -1", x.beam(1, 1, 1, 1, -1), BAD);
        due(32, "z 0", x.beam(1, 1, 0, 1, 0), BAD);
        due(32, "z below 0", x.beam(1, 1, -1, 1, 0), BAD);
        due(32, "x", x.beam(1, 0, 1, 1, 0), BAD);
        due(32, "z", x.beam(1, 1, 1, -1, 0), BAD);
        due(32, "x 2^40", x.beam(FAR, 1, 1, 1, 0), BAD);
        fraction(32, "x below 0", x, x.beam(-1, 1, 1, 1, 0), -2 * 3, 5);
    }

    private static void traces() {
        OpticalHouse x = new OpticalHouse();
        for (int s = -1; s < 12; s++) {
            dueD(35, "without a trace", x.at(s, 0), 0.0);
        }
        x.lens(1);
        x.view(0, 0, 0);
        due(34, "a plane has no image", x.trace(0.5, 0.25, 0.0, 0.0), NO);
        x.glass(1, 0, 3, 2);
        x.set(0, 0, 0, 1, 10);
        x.behind(0, 0, 1);
        due(34, "along the axis", x.trace(0.0, 0.0, 0.0, 0.0), 0);
        dueD(35, "l", x.at(0, 3), 0.0);
        dueD(35, "n", x.at(0, 5), 1.0);
        dueD(35, "path to the plane", x.at(1, 6), 45.0);
        dueD(35, "z at the plane", x.at(1, 2), 0.0);
        due(34, "not a number is 0", x.trace(Double.NaN, 1000000.0, -1000000.0, Double.NEGATIVE_INFINITY), 0);
        dueD(35, "path", x.at(1, 6), 45.0);
        // the sphere of radius 10 is met at (6, 0, 2)
        due(34, "passes", x.trace(6.0, 0.0, 0.0, 0.0), 0);
        dueD(35, "x", x.at(0, 0), 6.0);
        dueD(35, "z", near(x.at(0, 2), 2.0), 1.0);
        dueD(35, "path", near(x.at(0, 6), 2.0), 1.0);
        double cos = Math.sqrt(1.0 - (1.0 / 1.5) * (1.0 / 1.5) * (1.0 - 0.8 * 0.8));
        dueD(35, "l", near(x.at(0, 3), -(cos - 0.8 / 1.5) * 0.6), 1.0);
        due(34, "missed", x.trace(10.5, 0.0, 0.0, 0.0), 1);
        for (int what = 0; what < 7; what++) {
            dueD(35, "missed", x.at(0, what), 0.0);
            dueD(35, "did not come", x.at(1, what), 0.0);
        }
        x.set(0, 0, 3, 5, 1);
        due(34, "blocked", x.trace(6.0, 0.0, 0.0, 0.0), 2);
        dueD(35, "x", x.at(0, 0), 6.0);
        dueD(35, "path", near(x.at(0, 6), 2.0), 1.0);
        dueD(35, "n", x.at(0, 5), 0.0);
        dueD(35, "did not come", x.at(1, 0), 0.0);
        due(34, "at the rim", x.trace(5.0, 0.0, 0.0, 0.0), 0);
        x.set(0, 0, 3, 0, 1);
        x.glass(1, 0, 1, 2);
        due(34, "total", x.trace(6.0, 0.0, 0.0, 0.0), 3);
        dueD(35, "x", x.at(0, 0), 6.0);
        dueD(35, "l", x.at(0, 3), 0.0);
        dueD(35, "what", x.at(0, 7), 0.0);
        dueD(35, "what", x.at(0, -1), 0.0);
        dueD(35, "surface", x.at(2, 0), 0.0);
        dueD(35, "surface", x.at(-1, 0), 0.0);
        x.glass(1, 0, 3, 2);
        x.set(0, 0, 0, 1, 1);
        due(34, "just touched", x.trace(1.0, 0.0, 0.0, 0.0), 0);
        dueD(35, "z", x.at(0, 2), 1.0);
        x.set(0, 0, 2, -25, 16);
        x.set(0, NONE, 5, 3, 4);
        due(34, "P + S is 0.0", x.trace(2.0, 0.0, 1.0, 0.0), 1);
        x.set(0, 0, 2, 0, 1);
        // 1.0 - q is -q in doubles, so that n is 0.0 behind the surface
        x.glass(0, 0, 1L << 30, 1);
        x.glass(1, 0, 1, 1L << 30);
        due(34, "missed at the plane", x.trace(0.0, 0.0, 0.0, 0.0), 4);
        dueD(35, "n", x.at(0, 5), 0.0);
        for (int what = 0; what < 7; what++) {
            dueD(35, "the plane", x.at(1, what), 0.0);
        }
        x.glass(0, 0, 1, 1);
        x.glass(1, 0, 1, 2);
        x.set(0, 0, 0, 1, 10);
        due(34, "total", x.trace(6.0, 0.0, 0.0, 0.0), 3);
        x.solve(0, 0, 1, 5, 1);
        due(34, "the gap is there", x.trace(6.0, 0.0, 0.0, 0.0), 3);
        x.set(0, 0, 0, 0, 1);
        due(34, "refused", x.trace(1.0, 0.0, 0.0, 0.0), NO);
        dueD(35, "a refused one changes nothing", x.at(0, 0), 6.0);
        due(36, "refused", x.spot(1, 0.0, 0.0), NO);
        x.open();
        dueD(35, "opening", x.at(0, 0), 0.0);
    }
    private static void refusedTraces() {
        OpticalHouse x = new OpticalHouse();
        x.glass(1, 0, 3, 2);
        x.lens(2);
        x.set(0, 0, 0, 1, 10);
        x.set(0, 0, 1, 30, 1);
        x.behind(0, 0, 1);
        x.view(0, 0, 0);
        due(34, "all there", x.trace(0.5, 0.0, 0.0, 0.0), 0);
        x.stop(0, 1);
        fraction(34, "the image", x, x.first(6), 0, 1);
        due(34, "the chief's height is LOST", x.trace(0.5, 0.0, 0.0, 0.0), NO);
        x.stop(0, 0);
        due(34, "all there", x.trace(0.5, 0.0, 0.0, 0.0), 0);
        x.set(0, 0, 2, (1L << 40) - 1, 1);
        x.pick(0, 1, 2, 0, (1L << 40) - 1, 1);
        due(34, "a conic is LOST", x.trace(0.5, 0.0, 0.0, 0.0), NO);
        x.undo(0);
        x.set(0, 0, 2, 0, 1);
        x.set(0, 1, 0, -1, 7);
        x.pick(0, 1, 1, 0, (1L << 40) - 1, (1L << 40) - 2);
        due(34, "all there", x.trace(0.5, 0.0, 0.0, 0.0), 0);
        x.set(0, 0, 1, (1L << 40) - 3, (1L << 40) - 5);
        due(34, "the last gap is LOST", x.trace(0.5, 0.0, 0.0, 0.0), NO);
    }
    private static double near(double got, double want) {
        return Math.abs(got - want) < 1.0E-12 ? 1.0 : 0.0;
    }

    private static void mirrors() {
        OpticalHouse x = new OpticalHouse();
        x.lens(2);
        x.behind(0, 0, 8);
        x.set(0, 0, 0, -1, 20);
        x.set(0, 0, 2, -1, 1);
        x.set(0, 0, 1, -4, 1);
        x.view(0, 0, 0);
        fraction(26, "focal", x, x.first(6), -6, 1);
        due(34, "a parabola", x.trace(0.0, 3.0, 0.0, 0.0), 0);
        dueD(35, "goes to one point", near(x.at(2, 1), 0.0), 1.0);
        dueD(35, "z on the mirror", near(x.at(0, 2), -9.0 / 40.0), 1.0);
        dueD(35, "by one path", near(x.at(2, 6), 10.0), 1.0);
        x.set(0, NONE, 4, 20, 1);
        x.set(0, NONE, 5, 1, 1);
        due(34, "a near object", x.trace(1.0, 0.0, 0.0, 0.0), 0);
        dueD(35, "starts from the object", near(x.at(0, 0), (20.0 + x.at(0, 2)) / 20.0), 1.0);
        due(34, "from its rim to the stop's middle", x.trace(0.0, 0.0, 1.0, 0.0), 0);
        dueD(35, "x at the stop", x.at(0, 0), 0.0);
    }

    private static void spots() {
        OpticalHouse x = new OpticalHouse();
        dueD(37, "without", x.spread(0), 0.0);
        dueD(37, "without", x.spread(3), 0.0);
        dueD(37, "without", x.spread(5), 0.0);
        x = single();
        int[] rays = {0, 5, 13, 29, 49, 81, 113};
        for (int g = 1; g <= 6; g++) {
            due(36, "size " + g, x.spot(g, 0.0, 0.0), rays[g]);
        }
        due(36, "size 0", x.spot(0, 0.0, 0.0), BAD);
        due(36, "size 7", x.spot(7, 0.0, 0.0), BAD);
        due(36, "size -1", x.spot(-1, 0.0, 0.0), BAD);
        x.trace(0.5, 0.0, 0.0, 0.0);
        double before = x.at(0, 0);
        x.spot(1, 0.01, 0.0);
        dueD(36, "the latest trace stays", x.at(0, 0), before);
        double sx = x.spread(0);
        double ss = x.spread(2);
        dueD(37, "mean", x.spread(3), sx / 5);
        dueD(37, "mean y", x.spread(4), x.spread(1) / 5);
        dueD(37, "spread", x.spread(5), ss / 5 - (x.spread(3) * x.spread(3) + x.spread(4) * x.spread(4)));
        dueD(37, "6", x.spread(6), 0.0);
        dueD(37, "-1", x.spread(-1), 0.0);
        x.spot(9, 0.0, 0.0);
        dueD(37, "a refused one changes nothing", x.spread(2), ss);
        x.set(0, 0, 3, 1, 2);
        due(36, "the rim is blocked", x.spot(2, 0.0, 0.0), 5);
        x.set(0, NONE, 6, 20, 1);
        x.set(0, 0, 3, 0, 1);
        due(36, "only the middle one", x.spot(1, 0.0, 0.0), 1);
        dueD(37, "spread of one", x.spread(5), 0.0);
        x.set(0, 0, 3, 1, 100);
        x.set(0, NONE, 5, 1, 1);
        x.stop(0, 0);
        due(36, "count", x.spot(1, 0.0, 0.0), 1);
        x.crash(23);
        dueD(37, "opening", x.spread(0) + x.spread(2), 0.0);
    }

    private static void meritTexts() {
        OpticalHouse x = new OpticalHouse();
        due(38, "-1", x.merit(-1), BAD);
        feed(x, "focal=1");
        due(38, "4", x.merit(4), BAD);
        due(38, "the tape stays", x.count(5), 7);
        due(38, "one row", x.merit(3), 1);
        due(38, "the tape is empty", x.count(5), 0);
        due(38, "nothing", x.merit(0), -10);
        due(38, "blanks", merit(x, 0, "  \n"), -13);
        due(38, "every operand", merit(x, 0, "focal=1;back=1;image=1;mag=1;number=1;sum 6=1;curve 9=1;gap 0=1"), 8);
        due(38, "signs and blanks", merit(x, 0, " gap\n0 < - 1 / 2 by -3/4;\nback>0 "), 2);
        due(38, "no blanks", merit(x, 0, "gap0<1by2;sum3>4"), 2);
        due(38, "leading 0s", merit(x, 0, "sum 000000006 = 000000001/000000001"), 1);
        due(38, "ten digits", merit(x, 0, "sum 0000000006 = 1"), -14);
        due(38, "nine digits", merit(x, 0, "gap 1 = 999999999/999999999"), 1);
        due(38, "ten digits", merit(x, 0, "gap 1 = 1/1000000000"), -20);
        due(38, "below 0", merit(x, 0, "gap 1 = 1/0"), -20);
        due(38, "two signs", merit(x, 0, "gap 1 = --1"), -19);
        due(38, "minus below", merit(x, 0, "gap 1 = 1/-1"), -20);
        due(38, "surface 10", merit(x, 0, "gap 10 = 1"), -14);
        due(38, "surface 9", merit(x, 0, "gap 9 = 1"), 1);
        due(38, "sum 7", merit(x, 0, "sum 7 = 1"), -14);
        due(38, "no n", merit(x, 0, "sum = 1"), -14);
        due(38, "n too much", merit(x, 0, "focal 1 = 1"), -16);
        due(38, "a word", merit(x, 0, "focals = 1"), -10);
        due(38, "a word", merit(x, 0, "focalz = 1"), -10);
        due(38, "a word", merit(x, 0, "afocal = 1"), -10);
        due(38, "a word", merit(x, 0, "by = 1"), -10);
        due(38, "upper case", merit(x, 0, "Focal = 1"), -10);
        due(38, "a byte that is none, behind a word", merit(x, 0, "focal+1"), -15);
        due(38, "a word not as told ahead of a byte that is none", merit(x, 0, "foc+1"), -10);
        due(38, "a tabulator", merit(x, 0, "focal\t= 1"), -15);
        due(38, "two relations", merit(x, 0, "focal == 1"), -17);
        due(38, "no number", merit(x, 0, "focal = "), -18);
        due(38, "no number behind by", merit(x, 0, "focal = 1 by"), -22);
        due(38, "by twice", merit(x, 0, "focal = 1 by 2 by 3"), -25);
        due(38, "another word behind", merit(x, 0, "focal = 1 bye 2"), -20);
        due(38, "two numbers", merit(x, 0, "focal = 1 2"), -20);
        due(38, "row missing", merit(x, 0, "focal = 1;"), -20);
        due(38, "row missing", merit(x, 0, "focal = 1; ;"), -21);
        due(38, "row missing, blanks", merit(x, 0, "focal = 1;  "), -22);
        due(38, "ten rows", merit(x, 0, times(9, "back=1;") + "back=1"), 10);
        due(38, "an eleventh", merit(x, 0, times(10, "back=1;") + " back=1"), -81);
        due(38, "an eleventh that is none", merit(x, 0, times(10, "back=1;") + "?"), -80);
        due(38, "an end instead", merit(x, 0, times(10, "back=1;") + "  "), -82);
        x.lens(1);
        x.view(0, 0, 0);
        x.set(0, 0, 1, 4, 1);
        due(38, "a good one", merit(x, 1, "gap 0 = 1"), 1);
        due(38, "a wrong one", merit(x, 1, "gap 0 = "), -18);
        due(38, "the tape is empty", x.count(5), 0);
        fraction(38, "it stays as it was", x, x.value(1), 9, 1);
        due(38, "another one", merit(x, 2, "gap 0 = 2"), 1);
        fraction(38, "each its own", x, x.value(1), 9, 1);
        fraction(38, "each its own", x, x.value(2), 4, 1);
    }

    private static void values() {
        OpticalHouse x = thick();
        due(39, "-1", x.value(-1), BAD);
        due(39, "4", x.value(4), BAD);
        fraction(39, "without rows", x, x.value(0), 0, 1);
        merit(x, 0, "focal = 10");
        fraction(39, "focal 200/19", x, x.value(0), 100, 361);
        merit(x, 0, "gap 0 = 1/2 by 2/5");
        fraction(39, "25/4 by 2/5", x, x.value(0), 5, 2);
        merit(x, 0, "gap 0 < 3; gap 0 > 3; gap 0 < 4; gap 0 > 2");
        fraction(39, "nothing", x, x.value(0), 0, 1);
        merit(x, 0, "gap 0 < 2; gap 0 > 5 by -1");
        fraction(39, "1 - 4", x, x.value(0), -3, 1);
        merit(x, 0, "number = 0; back = 0; image = 0; curve 1 = 0");
        fraction(39, "each operand", x, x.value(0), 10000 * 100 + 2 * 32400 * 100 + 361, 36100);
        merit(x, 0, "sum 3 = 0; sum 5 = 0");
        due(39, "sums", x.value(0), 1);
        merit(x, 0, "gap 2 = 0");
        lost(39, "no such surface", x, x.value(0));
        merit(x, 0, "gap 0 < 9; mag < 5");
        lost(39, "a v that is LOST", x, x.value(0));
        merit(x, 0, "gap 0 = 999999999/999999998; gap 0 = 999999997/999999996");
        lost(39, "the value is LOST", x, x.value(0));
    }

    private static void roundsOf() {
        OpticalHouse x = new OpticalHouse();
        x.lens(2);
        x.view(0, 0, 0);
        due(40, "surface", x.vary(2, 0, 1, 1), BAD);
        due(40, "surface", x.vary(NONE, 0, 1, 1), BAD);
        due(40, "conic", x.vary(0, 2, 1, 1), BAD);
        due(40, "sort", x.vary(0, -1, 1, 1), BAD);
        due(40, "step 0", x.vary(0, 1, 0, 1), BAD);
        due(40, "step below 0", x.vary(0, 1, -1, 1), BAD);
        due(40, "step", x.vary(0, 1, 1, 0), BAD);
        merit(x, 0, "gap 0 = 5");
        due(40, "vary", x.vary(0, 1, 2, 1), 1);
        due(41, "k", x.rounds(4, 1), BAD);
        due(41, "k", x.rounds(-1, 1), BAD);
        due(41, "n", x.rounds(0, 21), BAD);
        due(41, "n", x.rounds(0, -1), BAD);
        due(41, "none", x.rounds(0, 0), 0);
        // 0, 2, 4, 6 is no better than 4 (both 1 off), step 1: 5, then three more halvings
        due(41, "rounds", x.rounds(0, 20), 7);
        due(41, "moves", x.count(1), 4);
        fraction(41, "5", x, x.datum(0, 0, 1), 5, 1);
        due(41, "a move of kind 1", x.move(3, 0), 1);
        due(41, "of its surface", x.move(3, 3), 0);
        due(41, "of its sort", x.move(3, 4), 1);
        merit(x, 0, "gap 0 = 4");
        due(41, "the step is whole again", x.rounds(0, 1), 1);
        fraction(41, "no better at 3", x, x.datum(0, 0, 1), 5, 1);
        due(41, "less", x.rounds(0, 2), 2);
        fraction(41, "less the step", x, x.datum(0, 0, 1), 4, 1);
        x.solve(0, 0, 1, 0, 1);
        due(41, "LOST", x.rounds(0, 3), NO);
        x.pick(0, 1, 1, 0, 1, 1);
        merit(x, 0, "curve 0 = 9");
        due(41, "passed over", x.rounds(0, 20), 4);
        due(45, "forget", x.forget(), 1);
        due(45, "again", x.forget(), 0);
        due(41, "no variables", x.rounds(0, 20), 4);
        for (int i = 1; i <= 5; i++) {
            due(40, "vary", x.vary(0, 0, 1, i), i);
        }
        due(40, "a sixth", x.vary(0, 0, 1, 1), FULL);
        due(40, "BAD before FULL", x.vary(0, 0, 0, 1), BAD);
        due(41, "five in one round", x.rounds(0, 1), 1);
        fraction(41, "137/60", x, x.datum(0, 0, 0), 137, 60);
        while (x.count(1) < 398) {
            x.stop(0, 0);
        }
        due(41, "no room", x.rounds(0, 5), 1);
        due(41, "full", x.count(1), 400);
        fraction(41, "two moves came", x, x.datum(0, 0, 0), 137 + 90, 60);
        due(41, "still none", x.rounds(0, 5), 1);
        merit(x, 0, "curve 0 = 227/60");
        due(41, "no move is asked for", x.rounds(0, 20), 4);
    }

    private static void tolerances() {
        OpticalHouse x = new OpticalHouse();
        x.lens(2);
        x.view(0, 0, 0);
        x.set(0, 0, 1, 5, 1);
        merit(x, 1, "gap 0 = 4; gap 1 < 100");
        due(42, "surface", x.tolerance(2, 0, 1, 1), BAD);
        due(42, "sort", x.tolerance(0, 2, 1, 1), BAD);
        due(42, "0", x.tolerance(0, 0, 0, 1), BAD);
        due(42, "fraction", x.tolerance(0, 0, 1, -1), BAD);
        due(43, "none", x.worse(0, 0, 1), BAD);
        due(42, "tolerance", x.tolerance(0, 1, 1, 2), 1);
        int had = x.count(1);
        fraction(43, "more", x, x.worse(0, 0, 1), 9, 4);
        fraction(43, "less", x, x.worse(0, 1, 1), 1, 4);
        due(43, "side", x.worse(0, 2, 1), BAD);
        due(43, "side", x.worse(0, -1, 1), BAD);
        due(43, "k", x.worse(0, 0, 4), BAD);
        due(43, "k", x.worse(0, 0, -1), BAD);
        due(43, "tolerance", x.worse(1, 0, 1), BAD);
        due(43, "tolerance", x.worse(-1, 0, 1), BAD);
        due(43, "no move", x.count(1), had);
        fraction(43, "the datum stays", x, x.datum(0, 0, 1), 5, 1);
        x.zoom(0, 0, 1, 7, 1);
        x.view(0, 1, 0);
        fraction(43, "the zoom counts", x, x.worse(0, 0, 1), 9, 1);
        x.view(0, 0, 0);
        x.pick(0, 1, 1, 0, 1, 1);
        x.tolerance(1, 1, 1, 1);
        fraction(43, "one picked up stays", x, x.worse(1, 0, 1), 1, 1);
        due(44, "n", x.draws(61, 0, 1, 1, 1), BAD);
        due(44, "n", x.draws(-1, 0, 1, 1, 1), BAD);
        due(44, "k", x.draws(1, 0, 4, 1, 1), BAD);
        due(44, "limit", x.draws(1, 0, 1, 1, 0), BAD);
        due(44, "none", x.draws(0, 0, 1, 1, 1), 0);
        due(44, "all", x.draws(60, 9, 1, 9, 4), 60);
        due(44, "limit below 0", x.draws(60, 9, 1, -1, 1), 0);
        // less comes of a z >= 0; the second tolerance draws too
        long z = 9;
        int less = 0;
        for (int i = 0; i < 60; i++) {
            z = z * 6364136223846793005L + 1442695040888963407L;
            less += z >= 0 ? 1 : 0;
            z = z * 6364136223846793005L + 1442695040888963407L;
        }
        due(44, "not above the limit", x.draws(60, 9, 1, 1, 4), less);
        due(44, "just below it", x.draws(60, 9, 1, 24, 100), 0);
        due(44, "no move", x.count(1), had + 2);
        for (int i = 3; i <= 6; i++) {
            due(42, "tolerance", x.tolerance(0, 1, 1, 2), i);
        }
        due(42, "a seventh", x.tolerance(0, 1, 1, 2), FULL);
        due(42, "BAD before FULL", x.tolerance(0, 1, 0, 2), BAD);
        z = -4;
        int counted = 0;
        for (int i = 0; i < 40; i++) {
            double gap = 5.0;
            for (int j = 0; j < 6; j++) {
                z = z * 6364136223846793005L + 1442695040888963407L;
                gap += j == 1 ? 0.0 : z < 0 ? 0.5 : -0.5;
            }
            counted += (gap - 4.0) * (gap - 4.0) <= 1.0 ? 1 : 0;
        }
        due(44, "one upon the other", x.draws(40, -4, 1, 1, 1), counted);
        due(50, "tolerances", x.count(4), 6);
        due(45, "forget", x.forget(), 6);
        due(50, "tolerances", x.count(4), 0);
    }

    private static void lostTolerances() {
        OpticalHouse x = new OpticalHouse();
        x.lens(2);
        x.view(0, 0, 0);
        x.set(0, 0, 1, 1, (1L << 39) + 1);
        x.tolerance(0, 1, 1, (1L << 39) - 1);
        merit(x, 0, "gap 1 = 1");
        fraction(43, "what does not hang on it", x, x.worse(0, 0, 0), 1, 1);
        merit(x, 1, "gap 0 = 1");
        lost(43, "what does", x, x.worse(0, 0, 1));
        due(44, "LOST is not counted", x.draws(9, 1, 1, 100, 1), 0);
        due(44, "there", x.draws(9, 1, 0, 100, 1), 9);
    }

    private static void disks() {
        OpticalHouse x = new OpticalHouse();
        due(46, "nothing", x.disk(0), BAD);
        due(47, "nothing", x.alter(0, 1), BAD);
        due(48, "no move", x.crash(0), BAD);
        due(49, "nothing", x.open(), 0);
        x.lens(2);
        x.pick(0, 1, 2, 0, -1, 3);
        int[] want = {4, 0, 1, 2, 0, 255, 255, 255, 255, 255, 255, 255, 255, 0, 0, 0, 0, 0, 0, 0, 3};
        int sum = 0;
        for (int i = 0; i < 21; i++) {
            due(46, "byte " + i, x.disk(23 + i), want[i]);
            sum = (31 * sum + want[i]) % 65536;
        }
        due(46, "the sum's high byte", x.disk(44), sum / 256);
        due(46, "its low byte", x.disk(45), sum % 256);
        due(46, "behind it", x.disk(46), BAD);
        due(46, "-1", x.disk(-1), BAD);
        due(47, "bits 256", x.alter(0, 256), BAD);
        due(47, "bits -1", x.alter(0, -1), BAD);
        due(47, "byte", x.alter(46, 1), BAD);
        due(47, "byte", x.alter(-1, 1), BAD);
        due(47, "nothing", x.alter(28, 0), 255);
        due(47, "alter", x.alter(28, 129), 126);
        due(46, "altered", x.disk(28), 126);
        due(47, "the moves stay", x.how(0, 1, 2), 1);
        due(47, "back", x.alter(28, 129), 255);
        x.view(0, 1, 1);
        x.vary(0, 0, 1, 1);
        x.tolerance(0, 0, 1, 1);
        x.glass(3, 0, 5, 4);
        x.layer(0, 1, 5, 4);
        feed(x, "gap");
        x.datum(0, 1, 2);
        due(49, "open", x.open(), 2);
        due(49, "no view", x.count(6), NONE);
        due(49, "state", x.count(7), 0);
        due(49, "wave", x.count(8), 0);
        due(49, "no variables", x.count(3) + x.count(4), 0);
        due(49, "the tape stays", x.count(5), 3);
        due(49, "the films stay", x.film(0), 1);
        due(49, "the fraction stays", x.below(), 3);
        due(49, "the pick up is there", x.how(0, 1, 2), 1);
        due(48, "24", x.crash(24), BAD);
        due(48, "-1", x.crash(-1), BAD);
        for (int n = 23; n >= 0; n -= 23) {
            due(48, "crash " + n, x.crash(n), n == 23 ? 2 : 1);
        }
        due(48, "bytes", x.count(2), 23);
        due(48, "told 0 again", x.how(0, 1, 2), 0);
        x.pick(0, 1, 2, 0, -1, 3);
        due(48, "22 bytes", x.crash(22), 1);
        due(50, "9", x.count(9), BAD);
        due(50, "-1", x.count(-1), BAD);
        due(50, "lenses", x.count(0), 1);
    }

    /** Writes other bytes over a MOVE on THE DISK, with the sum that they ask for. */
    private static void write(OpticalHouse x, int move, int... bytes) {
        int sum = 0;
        for (int i = 0; i < 23; i++) {
            int b = i < 21 ? bytes[i] : i == 21 ? sum / 256 : sum % 256;
            if (i < 21) {
                sum = (31 * sum + b) % 65536;
            }
            x.alter(move * 23 + i, x.disk(move * 23 + i) ^ b);
        }
    }
    private static int[] bytes(int kind, int lens, int surface, int what, int ahead, long above, long below) {
        int[] out = new int[21];
        out[0] = kind;
        out[1] = lens;
        out[2] = surface;
        out[3] = what;
        out[4] = ahead;
        for (int i = 0; i < 8; i++) {
            out[5 + i] = (int) (above >>> 56 - 8 * i & 255);
            out[13 + i] = (int) (below >>> 56 - 8 * i & 255);
        }
        return out;
    }
    /** Whether a MOVE of such bytes could be behind a LENS of 3, one of 2 and a MOVE 8 of LENS 0. */
    private static void could(String what, int want, int kind, int lens, int surface, int[] rest, long above, long below) {
        OpticalHouse x = new OpticalHouse();
        x.lens(3);
        x.lens(2);
        x.stop(0, 2);
        x.undo(0);
        x.stop(0, 1);
        write(x, 4, bytes(kind, lens, surface, rest[0], rest[1], above, below));
        due(49, what, x.open(), 4 + want);
        due(49, what + " bytes", x.count(2), 23 * (4 + want));
    }
    private static void opening() {
        int n = 255;
        long far = 1L << 62;
        could("a lens", 1, 0, 2, n, new int[] {10, n}, 0, 0);
        could("a lens of 11", 0, 0, 2, n, new int[] {11, n}, 0, 0);
        could("a lens of 0", 0, 0, 2, n, new int[] {0, n}, 0, 0);
        could("lens 3", 0, 0, 3, n, new int[] {1, n}, 0, 0);
        could("lens 1 again", 0, 0, 1, n, new int[] {1, n}, 0, 0);
        could("a lens with a surface", 0, 0, 2, 0, new int[] {1, n}, 0, 0);
        could("a lens with one ahead", 0, 0, 2, n, new int[] {1, 0}, 0, 0);
        could("a lens with a fraction", 0, 0, 2, n, new int[] {1, n}, 0, 1);
        could("a datum", 1, 1, 0, 2, new int[] {3, n}, far - 1, 1);
        could("any size", 1, 1, 0, 2, new int[] {0, n}, 1 - far, far - 2);
        could("too large", 0, 1, 0, 2, new int[] {0, n}, far, 1);
        could("too small", 0, 1, 0, 2, new int[] {0, n}, -far, 1);
        could("below too large", 0, 1, 0, 2, new int[] {0, n}, 1, far);
        could("not in lowest terms", 0, 1, 0, 2, new int[] {0, n}, 2, 4);
        could("0 / 2", 0, 1, 0, 2, new int[] {0, n}, 0, 2);
        could("0 / 1", 1, 1, 0, 2, new int[] {0, n}, 0, 1);
        could("0 / 0", 0, 1, 0, 2, new int[] {0, n}, 0, 0);
        could("1 / 0", 0, 1, 0, 2, new int[] {0, n}, 1, 0);
        could("1 / -1", 0, 1, 0, 2, new int[] {0, n}, 1, -1);
        could("half below 0", 0, 1, 0, 2, new int[] {3, n}, -1, 1);
        could("surface 3", 0, 1, 0, 3, new int[] {0, n}, 1, 1);
        could("surface 2 of lens 1", 0, 1, 1, 2, new int[] {0, n}, 1, 1);
        could("lens 2", 0, 1, 2, 0, new int[] {0, n}, 1, 1);
        could("object", 1, 1, 0, n, new int[] {4, n}, 1, 1);
        could("object below 0", 0, 1, 0, n, new int[] {4, n}, -1, 1);
        could("beam below 0", 1, 1, 0, n, new int[] {6, n}, -1, 1);
        could("sort 7", 0, 1, 0, n, new int[] {7, n}, 1, 1);
        could("sort 4 of a surface", 0, 1, 0, 0, new int[] {4, n}, 1, 1);
        could("sort 0 of the lens", 0, 1, 0, n, new int[] {0, n}, 1, 1);
        could("a datum with one ahead", 0, 1, 0, 1, new int[] {0, 0}, 1, 1);
        could("behind", 1, 2, 0, 0, new int[] {8, n}, 0, 0);
        could("behind 9", 0, 2, 0, 0, new int[] {9, n}, 0, 0);
        could("behind with a fraction", 0, 2, 0, 0, new int[] {8, n}, 1, 1);
        could("stop", 1, 3, 0, 0, new int[] {n, n}, 0, 0);
        could("stop with more", 0, 3, 0, 0, new int[] {0, n}, 0, 0);
        could("stop of none", 0, 3, 0, n, new int[] {n, n}, 0, 0);
        could("pick up", 1, 4, 0, 2, new int[] {2, 1}, 1, 1);
        could("pick up from itself", 0, 4, 0, 2, new int[] {2, 2}, 1, 1);
        could("pick up from none", 0, 4, 0, 2, new int[] {2, n}, 1, 1);
        could("pick up of sort 3", 0, 4, 0, 2, new int[] {3, 1}, 1, 1);
        could("solve", 1, 5, 0, 2, new int[] {1, n}, -1, 1);
        could("solve of sort 2", 0, 5, 0, 2, new int[] {2, n}, -1, 1);
        could("zoom", 1, 6, 0, 2, new int[] {3, n}, -1, 1);
        could("zoom of 0", 0, 6, 0, 2, new int[] {0, n}, -1, 1);
        could("zoom of 4", 0, 6, 0, 2, new int[] {4, n}, -1, 1);
        could("film", 1, 7, 0, 2, new int[] {3, n}, 0, 0);
        could("no film", 1, 7, 0, 2, new int[] {n, n}, 0, 0);
        could("film 4", 0, 7, 0, 2, new int[] {4, n}, 0, 0);
        could("head", 1, 8, 0, n, new int[] {n, n}, 2, 0);
        could("head of another's", 1, 8, 1, n, new int[] {n, n}, 2, 0);
        could("head of a new one", 1, 8, 2, n, new int[] {n, n}, 1, 0);
        could("head of lens 3", 0, 8, 3, n, new int[] {n, n}, 1, 0);
        could("head a move 8", 0, 8, 0, n, new int[] {n, n}, 3, 0);
        could("head itself", 0, 8, 0, n, new int[] {n, n}, 4, 0);
        could("head -1", 0, 8, 0, n, new int[] {n, n}, -1, 0);
        could("head 2^32", 0, 8, 0, n, new int[] {n, n}, 1L << 32, 0);
        could("head with below 1", 0, 8, 0, n, new int[] {n, n}, 2, 1);
        could("head with more", 0, 8, 0, n, new int[] {0, n}, 2, 0);
        could("head with a surface", 0, 8, 0, 0, new int[] {n, n}, 2, 0);
        could("kind 9", 0, 9, 0, 0, new int[] {n, n}, 0, 0);
        could("kind 255", 0, 255, 0, 0, new int[] {n, n}, 0, 0);
        for (int kind = 0; kind < 9; kind += 8) {
            OpticalHouse eight = new OpticalHouse();
            for (int i = 0; i < 8; i++) {
                eight.lens(1);
            }
            eight.stop(7, 0);
            write(eight, 8, bytes(kind, 8, n, kind == 0 ? 1 : n, n, 0, 0));
            due(49, "a ninth lens", eight.open(), 8);
        }
        OpticalHouse x = new OpticalHouse();
        x.lens(3);
        x.lens(2);
        x.stop(0, 2);
        x.stop(1, 1);
        write(x, 3, bytes(8, 1, n, n, n, 2, 0));
        x.open();
        due(49, "a head moved to another tree", x.told(1, 0), 3);
        due(49, "its stop", x.told(1, 2), 2);
        due(49, "same", x.same(0, 1) ? 1 : 0, 1);
        due(49, "in common", x.merge(0, 1), 0);
        x.alter(22, 1);
        due(49, "a wrong sum at the start", x.open(), 0);
        due(49, "all goes", x.count(2), 0);
        due(49, "and starts anew", x.lens(1), 0);
    }

    public static void main(String[] args) {
        newObject();
        tape();
        fractions();
        farFractions();
        glasses();
        lenses();
        moves();
        undoing();
        merging();
        mergingFull();
        mergingAll();
        sameness();
        viewing();
        firsts();
        stability();
        works();
        terms();
        shares();
        ghosts();
        beams();
        traces();
        refusedTraces();
        mirrors();
        spots();
        meritTexts();
        values();
        roundsOf();
        tolerances();
        lostTolerances();
        disks();
        opening();
        System.out.println(asked + " answers asked for, " + wrong + " wrong");
        System.exit(wrong > 0 ? 1 : 0);
    }
}
