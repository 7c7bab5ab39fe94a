import java.util.function.Supplier;

/** The edges of THE DISK and of OPENING in section 7: promises 46 to 50. */
public final class DiskEdgesTest {
    private static final int NONE = Edges.NONE, BAD = Edges.BAD;
    private static final int N = House.NOTHING;
    private static final long TOLD = Edges.TOLD, FAR = Edges.FAR;

    private static void edge(String place, String sentence, Runnable test) {
        Edges.edge(place, sentence, test);
    }
    private static void due(String what, long got, long want) {
        Edges.due(what, got, want);
    }
    private static void fraction(String what, House x, int answered, long above, long below) {
        Edges.fraction(what, x, answered, above, below);
    }

    // ---- bytes

    private static void isOnDisk(String what, House x, int move, int... want) {
        for (int i = 0; i < 23; i++) {
            due(what + ", byte " + i, x.disk(23 * move + i), want[i]);
        }
    }

    private static void bytes() {
        edge("p46", "byte i: 0 up to the last one", () -> {
            Edges.refused(Houses.BLANK, "nothing is there", x -> x.disk(0), BAD);
            House x = new House();
            x.lens(1);
            due("the first one", x.disk(0), 0);
            Edges.due("the last one", x.disk(22) >= 0, true);
            due("behind it", x.disk(23), BAD);
            for (int i : new int[] {-1, 37 * 23, Integer.MIN_VALUE, Integer.MAX_VALUE}) {
                Edges.refused(Houses.RICH, "byte " + i, h -> h.disk(i), BAD);
            }
            Edges.due("of 400 moves", Houses.FULL.house().disk(9199) >= 0, true);
            Edges.refused(Houses.FULL, "behind 400 moves", h -> h.disk(9200), BAD);
        });
        edge("7", "23 bytes of each MOVE, in order", () -> {
            House x = new House();
            x.lens(10);
            x.set(0, 9, 3, TOLD - 2, TOLD - 1);
            x.set(0, NONE, 6, 1 - TOLD, 1);
            x.behind(0, 9, 8);
            x.stop(0, 9);
            x.pick(0, 9, 2, 8, -1, TOLD - 1);
            x.solve(0, 9, 1, 0, 5);
            x.zoom(0, 9, 3, -3, 6);
            x.coat(0, 9, 3);
            x.coat(0, 0, NONE);
            x.undo(0);
            x.branch(9);
            due("bytes", x.count(2), 12 * 23);
            isOnDisk("a LENS", x, 0, House.bytes(0, 0, N, 10, N, 0, 0));
            isOnDisk("a datum", x, 1, House.bytes(1, 0, 9, 3, N, TOLD - 2, TOLD - 1));
            isOnDisk("a datum of the LENS", x, 2, House.bytes(1, 0, N, 6, N, 1 - TOLD, 1));
            isOnDisk("what is behind", x, 3, House.bytes(2, 0, 9, 8, N, 0, 0));
            isOnDisk("the STOP", x, 4, House.bytes(3, 0, 9, N, N, 0, 0));
            isOnDisk("a PICK UP", x, 5, House.bytes(4, 0, 9, 2, 8, -1, TOLD - 1));
            isOnDisk("a SOLVE", x, 6, House.bytes(5, 0, 9, 1, N, 0, 1));
            isOnDisk("a ZOOM", x, 7, House.bytes(6, 0, 9, 3, N, -1, 2));
            isOnDisk("a FILM", x, 8, House.bytes(7, 0, 9, 3, N, 0, 0));
            isOnDisk("no FILM", x, 9, House.bytes(7, 0, 0, N, N, 0, 0));
            isOnDisk("a HEAD", x, 10, House.bytes(8, 0, N, N, N, 8, 0));
            isOnDisk("a HEAD of a new LENS", x, 11, House.bytes(8, 1, N, N, N, 9, 0));
        });
        edge("7", "8 bytes each, the highest first: a HEAD above 255", () -> {
            House x = new House();
            x.lens(1);
            Houses.fill(x, 0, 300);
            x.branch(299);
            isOnDisk("299", x, 300, House.bytes(8, 1, N, N, N, 299, 0));
            due("open", x.open(), 301);
            due("head", x.told(1, 1), 299);
        });
        edge("7", "the sum modulo 65536", () -> {
            // many bytes of 255 make it wrap again and again
            House x = new House();
            x.lens(1);
            x.set(0, 0, 0, -1, TOLD - 1);
            int[] want = House.bytes(1, 0, 0, 0, N, -1, TOLD - 1);
            isOnDisk("wrapped", x, 1, want);
        });
        edge("p47", "byte i, bits 0 .. 255", () -> {
            House x = new House();
            x.lens(1);
            due("none turned", x.alter(2, 0), 255);
            due("all turned", x.alter(2, 255), 0);
            due("stays so", x.disk(2), 0);
            due("back", x.alter(2, 255), 255);
            due("the highest", x.alter(0, 128), 128);
            due("the lowest", x.alter(0, 1), 129);
            due("the last byte", x.alter(22, 255) ^ 255, House.bytes(0, 0, N, 1, N, 0, 0)[22]);
            Edges.refused(Houses.BLANK, "nothing is there", h -> h.alter(0, 1), BAD);
            for (int i : new int[] {-1, 37 * 23, Integer.MIN_VALUE, Integer.MAX_VALUE}) {
                Edges.refused(Houses.RICH, "byte " + i, h -> h.alter(i, 1), BAD);
            }
            for (int bits : new int[] {-1, 256, Integer.MIN_VALUE, Integer.MAX_VALUE}) {
                Edges.refused(Houses.RICH, "bits " + bits, h -> h.alter(0, bits), BAD);
            }
            due("the last one of 400 moves", Houses.FULL.house().alter(9199, 0), Houses.FULL.house().disk(9199));
            Edges.refused(Houses.FULL, "behind 400 moves", h -> h.alter(9200, 1), BAD);
        });
        edge("p47", "each of 256 values of bits", () -> {
            House x = new House();
            x.lens(1);
            int now = x.disk(5);
            for (int bits = 0; bits < 256; bits++) {
                now = now ^ bits;
                due("bits " + bits, x.alter(5, bits), now);
            }
        });
        edge("p47", "THE DISK alone changes, up to an OPENING", () -> {
            House x = new House();
            x.lens(2);
            x.set(0, 0, 0, 1, 3);
            x.alter(23 + 12, 7);
            fraction("the datum stays", x, x.datum(0, 0, 0), 1, 3);
            due("the move stays", x.move(1, 0), 1);
            due("moves stay", x.count(1), 2);
            due("bytes stay", x.count(2), 46);
            due("one more", x.set(0, 0, 1, 1, 1), 2);
            due("opening", x.open(), 1);
        });
    }

    // ---- crashes

    private static House three() {
        House x = new House();
        x.lens(2);
        x.set(0, 0, 0, 1, 3);
        x.set(0, 0, 0, 2, 3);
        return x;
    }

    private static void crashes() {
        edge("p48", "BAD: n is not 0 .. 23", () -> {
            for (int n : new int[] {-1, 24, Integer.MIN_VALUE, Integer.MAX_VALUE}) {
                Edges.refused(Houses.RICH, "crash " + n, x -> x.crash(n), BAD);
                Edges.refused(Houses.BLANK, "crash " + n + " of nothing", x -> x.crash(n), BAD);
            }
        });
        edge("p48", "BAD: there is no MOVE", () -> {
            for (int n = 0; n <= 23; n++) {
                int first = n;
                Edges.refused(Houses.BLANK, "crash " + n, x -> x.crash(first), BAD);
            }
            House x = new House();
            x.lens(1);
            due("the only one goes", x.crash(0), 0);
            due("no move", x.crash(0), BAD);
            due("no move", x.crash(23), BAD);
        });
        edge("p48", "the first n stay: only all 23 are a MOVE", () -> {
            for (int n = 0; n <= 23; n++) {
                House x = three();
                due("crash " + n, x.crash(n), n == 23 ? 3 : 2);
                due("bytes", x.count(2), n == 23 ? 69 : 46);
                due("the last byte", x.disk(n == 23 ? 69 : 46), BAD);
                fraction("the datum", x, x.datum(0, 0, 0), n == 23 ? 2 : 1, 3);
                due("the head", x.told(0, 1), n == 23 ? 2 : 1);
                due("there is room behind it", x.set(0, 1, 0, 1, 1), n == 23 ? 3 : 2);
            }
        });
        edge("p48", "a LENS, a branch, an undo() that are cut off", () -> {
            House x = three();
            x.lens(1);
            due("a lens", x.crash(22), 3);
            due("lenses", x.count(0), 1);
            x.branch(0);
            due("a branch", x.crash(0), 3);
            due("lenses", x.count(0), 1);
            x.undo(0);
            due("an undo", x.crash(10), 3);
            fraction("the datum", x, x.datum(0, 0, 0), 2, 3);
        });
        edge("p48", "with 400 MOVES", () -> {
            House x = Houses.FULL.house();
            due("cut", x.crash(22), 399);
            due("room for one", x.stop(3, 0), 399);
            due("all stay", x.crash(23), 400);
            due("and so none", x.stop(3, 0), -4);
        });
        edge("p48", "OPENING: a MOVE that is wrong ahead of it ends it sooner", () -> {
            House x = three();
            x.alter(23, 1);
            due("crash 23", x.crash(23), 1);
            due("bytes", x.count(2), 23);
        });
        edge("p48", "what OPENING lets go and what stays", () -> goes(x -> x.crash(23)));
        edge("p49", "what OPENING lets go and what stays", () -> goes(x -> x.open()));
        edge("p49", "a refused crash() is no OPENING", () -> {
            House x = Houses.RICH.house();
            due("refused", x.crash(24), BAD);
            due("the view", x.count(6), 0);
            due("variables", x.count(3), 2);
        });
        edge("p49", "of nothing", () -> {
            House x = new House();
            due("open", x.open(), 0);
            due("moves", x.count(1), 0);
            due("lenses", x.count(0), 0);
        });
    }
    private static void goes(Edges.Call opening) {
        House x = Houses.RICH.house();
        due("opening", opening.of(x), 37);
        due("lenses", x.count(0), 4);
        due("bytes", x.count(2), 37 * 23);
        due("variables", x.count(3), 0);
        due("tolerances", x.count(4), 0);
        due("the tape stays", x.count(5), 9);
        due("the view", x.count(6), NONE);
        due("its state", x.count(7), 0);
        due("its wave", x.count(8), 0);
        due("the fraction stays", x.above(), 3);
        for (int s = 0; s < 5; s++) {
            for (int what = 0; what < 7; what++) {
                Edges.due("the ray", x.at(s, what), 0.0);
            }
        }
        for (int what = 0; what < 6; what++) {
            Edges.due("the spot", x.spread(what), 0.0);
        }
        due("the tape's text", x.merit(3), 1);
        due("view", x.view(0, 1, 1), 1);
        fraction("merits stay", x, x.value(2), 9, 4900);
        House same = Houses.RICH.house();
        for (int s = 0; s < 4; s++) {
            due("share", x.share(s), same.share(s));
            due("films and glasses stay", x.above(), same.above());
            due("ray", x.ray(s, 2), same.ray(s, 2));
            due("glasses stay", x.below(), same.below());
        }
        due("film 2", x.film(2), 8);
        due("film 3", x.film(3), 0);
    }

    // ---- a MOVE that could be then

    /** LENS 0 of three, LENS 1 of two, a STOP and an undo() of LENS 0; then a MOVE whose bytes are written over. */
    private static House before() {
        House x = new House();
        x.lens(3);
        x.lens(2);
        x.stop(0, 2);
        x.undo(0);
        x.stop(0, 1);
        return x;
    }
    private static void could(String what, boolean could, int kind, int lens, int surface, int told, int ahead, long above, long below) {
        could(DiskEdgesTest::before, 4, what, could, House.bytes(kind, lens, surface, told, ahead, above, below));
    }
    private static void could(Supplier<House> make, int move, String what, boolean could, int[] bytes) {
        House x = make.get();
        x.write(move, bytes);
        due(what, x.open(), could ? move + 1 : move);
        due(what + ", bytes", x.count(2), 23 * (could ? move + 1 : move));
        due(what + ", no more", x.disk(23 * (could ? move + 1 : move)), BAD);
    }

    private static void opening() {
        edge("p49", "each bit of a MOVE's 23 bytes: not just those of a MOVE", () -> {
            for (int i = 0; i < 23; i++) {
                for (int bit = 0; bit < 8; bit++) {
                    House x = three();
                    x.alter(23 + i, 1 << bit);
                    due("byte " + i + " bit " + bit, x.open(), 1);
                    due("what is behind goes", x.count(2), 23);
                }
            }
        });
        edge("p49", "the first MOVE, the last one, and one between", () -> {
            for (int move = 0; move < 3; move++) {
                House x = three();
                x.alter(23 * move + 22, 1);
                due("move " + move, x.open(), move);
                due("lenses", x.count(0), move == 0 ? 0 : 1);
                due("again", x.open(), move);
            }
        });
        edge("7", "kinds 0 .. 8", () -> {
            could("kind 8", true, 8, 0, N, N, N, 2, 0);
            could("kind 9", false, 9, 0, N, N, N, 2, 0);
            could("kind 255", false, 255, 0, N, N, N, 2, 0);
            for (int kind = 9; kind < 256; kind += 13) {
                could("kind " + kind, false, kind, 0, 0, N, N, 0, 0);
                could("kind " + kind + " with a fraction", false, kind, 0, 0, 0, N, 1, 1);
            }
        });
        edge("7", "a LENS: the next number, m 1 .. 10, nothing else", () -> {
            could("lens 2", true, 0, 2, N, 1, N, 0, 0);
            could("lens 1 again", false, 0, 1, N, 1, N, 0, 0);
            could("lens 0 again", false, 0, 0, N, 1, N, 0, 0);
            could("lens 3", false, 0, 3, N, 1, N, 0, 0);
            could("lens 255", false, 0, 255, N, 1, N, 0, 0);
            could("m 10", true, 0, 2, N, 10, N, 0, 0);
            could("m 11", false, 0, 2, N, 11, N, 0, 0);
            could("m 0", false, 0, 2, N, 0, N, 0, 0);
            could("m 255", false, 0, 2, N, N, N, 0, 0);
            could("with a surface", false, 0, 2, 0, 1, N, 0, 0);
            could("with one ahead", false, 0, 2, N, 1, 0, 0, 0);
            could("with an above", false, 0, 2, N, 1, N, 1, 0);
            could("with a below", false, 0, 2, N, 1, N, 0, 1);
        });
        edge("7", "8 LENSES: no ninth one, by a MOVE 0 or 8", () -> {
            Supplier<House> eight = () -> {
                House x = new House();
                for (int l = 0; l < 8; l++) {
                    x.lens(1);
                }
                x.stop(7, 0);
                return x;
            };
            could(eight, 8, "a ninth", false, House.bytes(0, 8, N, 1, N, 0, 0));
            could(eight, 8, "a ninth by its head", false, House.bytes(8, 8, N, N, N, 0, 0));
            could(eight, 8, "the eighth one's head", true, House.bytes(8, 7, N, N, N, 0, 0));
            Supplier<House> seven = () -> {
                House x = new House();
                for (int l = 0; l < 7; l++) {
                    x.lens(1);
                }
                x.stop(6, 0);
                return x;
            };
            could(seven, 7, "an eighth", true, House.bytes(0, 7, N, 1, N, 0, 0));
            could(seven, 7, "an eighth by its head", true, House.bytes(8, 7, N, N, N, 0, 0));
        });
        edge("7", "LENSES that there are, for kinds 1 to 7", () -> {
            int[][] kinds = {{1, 0, 0}, {2, 0, 0}, {3, 0, N}, {4, 1, 0}, {5, 0, 0}, {6, 0, 1}, {7, 0, 0}};
            for (int[] k : kinds) {
                boolean fraction = k[0] != 2 && k[0] != 3 && k[0] != 7;
                int one = fraction ? 1 : 0;
                int ahead = k[0] == 4 ? 0 : N;
                could("kind " + k[0] + ", lens 1", true, k[0], 1, k[1], k[2], ahead, one, one);
                could("kind " + k[0] + ", lens 2", false, k[0], 2, k[1], k[2], ahead, one, one);
                could("kind " + k[0] + ", lens 255", false, k[0], 255, k[1], k[2], ahead, one, one);
            }
        });
        edge("7", "SURFACES that its LENS has then", () -> {
            int[][] kinds = {{1, 0}, {2, 0}, {3, N}, {4, 0}, {5, 0}, {6, 1}, {7, 0}};
            for (int[] k : kinds) {
                boolean fraction = k[0] != 2 && k[0] != 3 && k[0] != 7;
                int one = fraction ? 1 : 0;
                int ahead = k[0] == 4 ? 0 : N;
                could("kind " + k[0] + ", surface 2", true, k[0], 0, 2, k[1], ahead, one, one);
                could("kind " + k[0] + ", surface 3", false, k[0], 0, 3, k[1], ahead, one, one);
                could("kind " + k[0] + ", surface 1 of lens 1", true, k[0], 1, 1, k[1], ahead, one, one);
                could("kind " + k[0] + ", surface 2 of lens 1", false, k[0], 1, 2, k[1], ahead, one, one);
                could("kind " + k[0] + ", surface 254", false, k[0], 0, 254, k[1], ahead, one, one);
                could("kind " + k[0] + ", no surface", false, k[0], 0, N, k[1], ahead, one, one);
            }
        });
        edge("7", "a datum: its sorts", () -> {
            for (int sort = 0; sort < 9; sort++) {
                could("sort " + sort + " of a surface", sort < 4, 1, 0, 0, sort, N, 1, 1);
                could("sort " + sort + " of none", sort >= 4 && sort <= 6, 1, 0, N, sort, N, 1, 1);
            }
            could("sort 255", false, 1, 0, 0, N, N, 1, 1);
            could("sort 255 of none", false, 1, 0, N, N, N, 1, 1);
            could("with one ahead", false, 1, 0, 2, 0, 0, 1, 1);
        });
        edge("7", "a datum: HALF and OBJECT 0 and more, the others any", () -> {
            for (int sort = 0; sort < 7; sort++) {
                int surface = sort < 4 ? 0 : N;
                could("sort " + sort + " below 0", sort != 3 && sort != 4, 1, 0, surface, sort, N, -1, 1);
                could("sort " + sort + " of 0", true, 1, 0, surface, sort, N, 0, 1);
            }
        });
        edge("7", "fractions: in lowest terms, below above 0", () -> {
            for (int kind : new int[] {1, 4, 5, 6}) {
                int told = kind == 6 ? 1 : 0;
                int ahead = kind == 4 ? 0 : N;
                could("1 / 2", true, kind, 0, 1, told, ahead, 1, 2);
                could("2 / 4", false, kind, 0, 1, told, ahead, 2, 4);
                could("-3 / 9", false, kind, 0, 1, told, ahead, -3, 9);
                could("-1 / 3", true, kind, 0, 1, told, ahead, -1, 3);
                could("0 / 1", true, kind, 0, 1, told, ahead, 0, 1);
                could("0 / 2", false, kind, 0, 1, told, ahead, 0, 2);
                could("0 / 0", false, kind, 0, 1, told, ahead, 0, 0);
                could("1 / 0", false, kind, 0, 1, told, ahead, 1, 0);
                could("1 / -1", false, kind, 0, 1, told, ahead, 1, -1);
                could("-1 / -1", false, kind, 0, 1, told, ahead, -1, -1);
            }
        });
        edge("7", "fractions: of any size that fractions may have, nearer to 0 than 2^62", () -> {
            for (int kind : new int[] {1, 4, 5, 6}) {
                int told = kind == 6 ? 1 : 0;
                int ahead = kind == 4 ? 0 : N;
                could("2^40", true, kind, 0, 1, told, ahead, TOLD, 1);
                could("2^62 - 1", true, kind, 0, 1, told, ahead, FAR - 1, 1);
                could("2^62", false, kind, 0, 1, told, ahead, FAR, 1);
                could("-(2^62 - 1)", true, kind, 0, 1, told, ahead, 1 - FAR, 1);
                could("-2^62", false, kind, 0, 1, told, ahead, -FAR, 1);
                could("below 2^62 - 1", true, kind, 0, 1, told, ahead, 1, FAR - 1);
                could("below 2^62", false, kind, 0, 1, told, ahead, 1, FAR);
                could("the greatest long", false, kind, 0, 1, told, ahead, Long.MAX_VALUE, 1);
                could("the least long", false, kind, 0, 1, told, ahead, Long.MIN_VALUE, 1);
                could("below the greatest", false, kind, 0, 1, told, ahead, 1, Long.MAX_VALUE);
                could("below the least", false, kind, 0, 1, told, ahead, 1, Long.MIN_VALUE);
                could("the least above the least", false, kind, 0, 1, told, ahead, Long.MIN_VALUE, Long.MIN_VALUE);
            }
        });
        edge("7", "what is behind: 0 .. 8, no fraction", () -> {
            for (int what = 0; what <= 10; what++) {
                could("behind " + what, what <= 8, 2, 0, 0, what, N, 0, 0);
            }
            could("behind 255", false, 2, 0, 0, N, N, 0, 0);
            could("one ahead", false, 2, 0, 1, 0, 0, 0, 0);
            could("0 / 1", false, 2, 0, 0, 0, N, 0, 1);
            could("1 / 0", false, 2, 0, 0, 0, N, 1, 0);
        });
        edge("7", "the STOP: 255, 255, no fraction", () -> {
            could("a stop", true, 3, 0, 0, N, N, 0, 0);
            could("with more", false, 3, 0, 0, 0, N, 0, 0);
            could("with one ahead", false, 3, 0, 1, N, 0, 0, 0);
            could("0 / 1", false, 3, 0, 0, N, N, 0, 1);
            could("1 / 0", false, 3, 0, 0, N, N, 1, 0);
        });
        edge("7", "a PICK UP: sorts 0 .. 2, from a SURFACE ahead", () -> {
            for (int sort = 0; sort < 5; sort++) {
                could("sort " + sort, sort < 3, 4, 0, 2, sort, 0, 1, 1);
            }
            could("sort 255", false, 4, 0, 2, N, 0, 1, 1);
            for (int from = 0; from < 4; from++) {
                could("from " + from, from < 2, 4, 0, 2, 0, from, 1, 1);
            }
            could("from none", false, 4, 0, 2, 0, N, 1, 1);
            could("of surface 0", false, 4, 0, 0, 0, 0, 1, 1);
        });
        edge("7", "a SOLVE: sorts 0, 1", () -> {
            for (int sort = 0; sort < 4; sort++) {
                could("sort " + sort, sort < 2, 5, 0, 2, sort, N, 1, 1);
            }
            could("sort 255", false, 5, 0, 2, N, N, 1, 1);
            could("with one ahead", false, 5, 0, 2, 0, 0, 1, 1);
        });
        edge("7", "a ZOOM: STATES 1 .. 3", () -> {
            for (int state = 0; state < 6; state++) {
                could("state " + state, state >= 1 && state <= 3, 6, 0, 2, state, N, 1, 1);
            }
            could("state 255", false, 6, 0, 2, N, N, 1, 1);
            could("with one ahead", false, 6, 0, 2, 1, 0, 1, 1);
        });
        edge("7", "a FILM: 0 .. 3 or 255", () -> {
            for (int film = 0; film < 6; film++) {
                could("film " + film, film < 4, 7, 0, 2, film, N, 0, 0);
            }
            could("none", true, 7, 0, 2, N, N, 0, 0);
            could("254", false, 7, 0, 2, 254, N, 0, 0);
            could("with one ahead", false, 7, 0, 2, 0, 0, 0, 0);
            could("0 / 1", false, 7, 0, 2, 0, N, 0, 1);
            could("1 / 0", false, 7, 0, 2, 0, N, 1, 0);
        });
        edge("7", "a HEAD: a MOVE of kinds 0 to 7 ahead of it", () -> {
            for (int move = 0; move < 5; move++) {
                could("move " + move, move < 3, 8, 0, N, N, N, move, 0);
            }
            could("-1", false, 8, 0, N, N, N, -1, 0);
            could("2^32", false, 8, 0, N, N, N, 1L << 32, 0);
            could("2^31", false, 8, 0, N, N, N, 1L << 31, 0);
            could("the least long", false, 8, 0, N, N, N, Long.MIN_VALUE, 0);
            could("the greatest long", false, 8, 0, N, N, N, Long.MAX_VALUE, 0);
            could("400", false, 8, 0, N, N, N, 400, 0);
        });
        edge("7", "a HEAD: a LENS, perhaps a new one, nothing else", () -> {
            could("of lens 1, another one's move", true, 8, 1, N, N, N, 2, 0);
            could("of a new one", true, 8, 2, N, N, N, 1, 0);
            could("of lens 3", false, 8, 3, N, N, N, 1, 0);
            could("of lens 255", false, 8, 255, N, N, N, 1, 0);
            could("below 1", false, 8, 0, N, N, N, 2, 1);
            could("with a surface", false, 8, 0, 0, N, N, 2, 0);
            could("with more", false, 8, 0, N, 0, N, 2, 0);
            could("with one ahead", false, 8, 0, N, N, 0, 2, 0);
        });
        edge("7", "a HEAD: also one that undo() would not tell", () -> {
            // LENS 1 of two SURFACES gets the WAY of LENS 0 of three, and goes on with SURFACE 2
            House x = before();
            x.stop(1, 0);
            x.write(4, House.bytes(8, 1, N, N, N, 2, 0));
            x.write(5, House.bytes(3, 1, 2, N, N, 0, 0));
            due("opening", x.open(), 6);
            due("surfaces", x.told(1, 0), 3);
            due("stop", x.told(1, 2), 2);
            due("way", x.told(1, 3), 3);
            due("before", x.move(5, 2), 2);
            due("undo", x.undo(1), 6);
            due("head", x.told(1, 1), 2);
            due("merging from there", x.merge(0, 1), 1);
        });
        edge("7", "a HEAD that leaves a LENS with fewer SURFACES", () -> {
            House x = before();
            x.stop(0, 2);
            x.write(4, House.bytes(8, 0, N, N, N, 1, 0));
            due("surface 2 is no more: the next one could not be", x.open(), 5);
            due("surfaces", x.told(0, 0), 2);
            due("stop", x.told(0, 2), 0);
            due("same", x.same(0, 1) ? 1 : 0, 1);
        });
        edge("7", "an empty LENS number can not be skipped", () -> {
            House x = new House();
            x.lens(1);
            x.lens(1);
            x.write(0, House.bytes(0, 1, N, 1, N, 0, 0));
            due("the first one is LENS 0", x.open(), 0);
        });
        edge("7", "the first MOVE: a LENS alone", () -> {
            for (int kind = 1; kind < 9; kind++) {
                House x = new House();
                x.lens(1);
                x.write(0, House.bytes(kind, 0, kind == 8 ? N : 0, 0, N, kind == 8 ? 0 : 1, kind == 8 ? 0 : 1));
                due("kind " + kind, x.open(), 0);
                due("lenses", x.count(0), 0);
                due("and it begins anew", x.lens(1), 0);
            }
        });
    }

    private static void counts() {
        edge("p50", "0 to 8", () -> {
            House x = Houses.RICH.house();
            int[] want = {4, 37, 37 * 23, 2, 2, 9, 0, 1, 1};
            for (int what = 0; what < 9; what++) {
                due("count " + what, x.count(what), want[what]);
            }
            for (int what : new int[] {-1, 9, Integer.MIN_VALUE, Integer.MAX_VALUE}) {
                Edges.refused(Houses.RICH, "count " + what, h -> h.count(what), BAD);
            }
        });
        edge("p50", "each at its most", () -> {
            House x = Houses.FULL.house();
            due("moves", x.count(1), 400);
            due("bytes", x.count(2), 9200);
            due("lenses", Houses.EIGHT.house().count(0), 8);
            House y = Houses.RICH.house();
            y.view(3, 3, 2);
            due("lens", y.count(6), 3);
            due("state", y.count(7), 3);
            due("wave", y.count(8), 2);
        });
        edge("p50", "NONE and 0 without a VIEW", () -> {
            House x = Houses.RICH.house();
            x.view(3, 3, 2);
            x.open();
            due("lens", x.count(6), NONE);
            due("state", x.count(7), 0);
            due("wave", x.count(8), 0);
        });
    }

    public static void main(String[] args) {
        bytes();
        crashes();
        opening();
        counts();
        Edges.end("7", "p46", "p47", "p48", "p49", "p50");
    }
}
