import java.util.LinkedHashMap;
import java.util.Map;

/** The edges of section 2 and of MOVES, HEADS, MERGING in section 7: promises 9 to 24. */
public final class LensEdgesTest {
    private static final int NONE = Edges.NONE, BAD = Edges.BAD, NO = Edges.NO, FULL = Edges.FULL;
    private static final int[] EXTREMES = {Integer.MIN_VALUE, Integer.MIN_VALUE + 1, Integer.MAX_VALUE};

    private static void edge(String place, String sentence, Runnable test) {
        Edges.edge(place, sentence, test);
    }
    private static void due(String what, long got, long want) {
        Edges.due(what, got, want);
    }
    private static void fraction(String what, House x, int answered, long above, long below) {
        Edges.fraction(what, x, answered, above, below);
    }
    /** Refused on a LENS of four SURFACES with three others beside it, and nothing changed. */
    private static void bad(String what, Edges.Call call) {
        Edges.refused(Houses.RICH, what, call, BAD);
    }

    /** A call with a LENS and a SURFACE; what else it needs is right. */
    interface OnSurface {
        long call(House x, int lens, int surface);
    }
    private static Map<String, OnSurface> movesOnSurfaces() {
        Map<String, OnSurface> out = new LinkedHashMap<>();
        out.put("p10 set", (x, l, s) -> x.set(l, s, 0, 1, 2));
        out.put("p11 behind", (x, l, s) -> x.behind(l, s, 1));
        out.put("p12 stop", (x, l, s) -> x.stop(l, s));
        out.put("p14 solve", (x, l, s) -> x.solve(l, s, 0, 1, 2));
        out.put("p15 zoom", (x, l, s) -> x.zoom(l, s, 1, 1, 2));
        out.put("p16 coat", (x, l, s) -> x.coat(l, s, 1));
        return out;
    }
    private static Map<String, OnSurface> questionsOfSurfaces() {
        Map<String, OnSurface> out = new LinkedHashMap<>();
        out.put("p22 datum", (x, l, s) -> x.datum(l, s, 0));
        out.put("p23 how", (x, l, s) -> x.how(l, s, 0));
        return out;
    }
    private static String place(String name) {
        return name.substring(0, name.indexOf(' '));
    }

    private static void surfaces() {
        Map<String, OnSurface> all = new LinkedHashMap<>(movesOnSurfaces());
        all.putAll(questionsOfSurfaces());
        all.forEach((name, call) -> {
            edge(place(name), name + ": SURFACES 0 .. m - 1, of a LENS of 1 and of 10", () -> {
                for (int m : new int[] {1, 10}) {
                    for (int s = 0; s < m; s++) {
                        House x = new House();
                        x.lens(m);
                        Edges.due("surface " + s + " of " + m, call.call(x, 0, s) >= 0, true);
                    }
                    for (int s : new int[] {-1, -2, m, m + 1}) {
                        House x = new House();
                        x.lens(m);
                        due("surface " + s + " of " + m, call.call(x, 0, s), BAD);
                        due("moves", x.count(1), 1);
                    }
                }
                for (int s : new int[] {-1, 4, 9}) {
                    bad("surface " + s + " of 4", x -> call.call(x, 0, s));
                }
                for (int s : EXTREMES) {
                    bad("surface " + s, x -> call.call(x, 0, s));
                }
            });
            edge(place(name), name + ": LENSES that there are", () -> {
                House x = new House();
                due("none", call.call(x, 0, 0), BAD);
                for (int l = 0; l < 8; l++) {
                    due("lens " + l + " is not there yet", call.call(x, l, 0), BAD);
                    x.lens(1);
                    Edges.due("lens " + l, call.call(x, l, 0) >= 0, true);
                }
                due("lens 8", call.call(x, 8, 0), BAD);
                due("lens -1", call.call(x, -1, 0), BAD);
                bad("lens 4 of 4", h -> call.call(h, 4, 0));
                bad("lens -1", h -> call.call(h, -1, 0));
                for (int l : EXTREMES) {
                    bad("lens " + l, h -> call.call(h, l, 0));
                }
            });
        });
    }

    // ---- 400 MOVES

    interface Moving {
        long call(House x);
    }
    private static Map<String, Moving> oneMove() {
        Map<String, Moving> out = new LinkedHashMap<>();
        out.put("p9 lens", x -> x.lens(1));
        out.put("p10 set", x -> x.set(0, 0, 0, 1, 2));
        out.put("p10 set, of the lens", x -> x.set(0, NONE, 6, 1, 2));
        out.put("p11 behind", x -> x.behind(0, 0, 1));
        out.put("p12 stop", x -> x.stop(0, 0));
        out.put("p13 pick", x -> x.pick(0, 1, 0, 0, 1, 2));
        out.put("p14 solve", x -> x.solve(0, 0, 0, 1, 2));
        out.put("p15 zoom", x -> x.zoom(0, 0, 1, 1, 2));
        out.put("p16 coat", x -> x.coat(0, 0, NONE));
        out.put("p17 undo", x -> x.undo(0));
        out.put("p18 branch", x -> x.branch(0));
        return out;
    }
    private static void room() {
        oneMove().forEach((name, call) -> edge(place(name), name + ": FULL: 400 MOVES", () -> {
            House x = Houses.ALMOST.house();
            boolean lens = name.startsWith("p9") || name.startsWith("p18");
            due("the 400th", call.call(x), lens ? 4 : 399);
            due("moves", x.count(1), 400);
            due("bytes", x.count(2), 9200);
            due("the 401st", call.call(x), FULL);
            due("moves", x.count(1), 400);
            Edges.refused(Houses.FULL, "the 401st", call::call, FULL);
        }));
        edge("7", "all 400 are there again behind an open()", () -> {
            House x = Houses.FULL.house();
            due("open", x.open(), 400);
            due("moves", x.count(1), 400);
            due("the last byte", x.disk(9199) >= 0 ? 1 : 0, 1);
            due("no byte behind it", x.disk(9200), BAD);
        });
        edge("7", "BAD comes ahead of FULL: 400 MOVES", () -> {
            Edges.refused(Houses.FULL, "lens", x -> x.lens(11), BAD);
            Edges.refused(Houses.FULL, "set", x -> x.set(0, 4, 0, 1, 1), BAD);
            Edges.refused(Houses.FULL, "set, its fraction", x -> x.set(0, 0, 0, 1, 0), BAD);
            Edges.refused(Houses.FULL, "set, below 0", x -> x.set(0, 0, 3, -1, 1), BAD);
            Edges.refused(Houses.FULL, "behind", x -> x.behind(0, 0, 9), BAD);
            Edges.refused(Houses.FULL, "stop", x -> x.stop(0, 4), BAD);
            Edges.refused(Houses.FULL, "pick", x -> x.pick(0, 1, 0, 1, 1, 1), BAD);
            Edges.refused(Houses.FULL, "solve", x -> x.solve(0, 0, 2, 1, 1), BAD);
            Edges.refused(Houses.FULL, "zoom", x -> x.zoom(0, 0, 4, 1, 1), BAD);
            Edges.refused(Houses.FULL, "coat", x -> x.coat(0, 0, 4), BAD);
            Edges.refused(Houses.FULL, "undo", x -> x.undo(4), BAD);
            Edges.refused(Houses.FULL, "branch", x -> x.branch(20), BAD);
            Edges.refused(Houses.FULL, "branch of the 400th", x -> x.branch(400), BAD);
            Edges.refused(Houses.FULL, "merge", x -> x.merge(0, 4), BAD);
        });
        edge("p17", "NO comes ahead of FULL", () -> {
            House x = new House();
            x.lens(1);
            x.lens(1);
            Houses.fill(x, 1, 400);
            due("its head is a MOVE 0", x.undo(0), NO);
            due("the other one's is not", x.undo(1), FULL);
        });
    }

    // ---- section 2

    private static void atFirst() {
        edge("2", "all data of a new LENS are 0, told; BEAM is 1, the STOP 0", () -> {
            House x = Houses.RICH.house();
            int lens = x.lens(10);
            for (int s = 0; s < 10; s++) {
                for (int sort = 0; sort < 4; sort++) {
                    fraction("datum " + s + " " + sort, x, x.datum(lens, s, sort), 0, 1);
                    due("how " + s + " " + sort, x.how(lens, s, sort), 0);
                }
            }
            fraction("object", x, x.datum(lens, NONE, 4), 0, 1);
            fraction("field", x, x.datum(lens, NONE, 5), 0, 1);
            fraction("beam", x, x.datum(lens, NONE, 6), 1, 1);
            due("stop", x.told(lens, 2), 0);
            due("mirrors", x.told(lens, 4), 0);
        });
        edge("p9", "GLASS 0 behind each, no FILMS, nothing told for a STATE", () -> {
            House x = new House();
            x.glass(0, 0, 5, 4);
            for (int i = 1; i < 8; i++) {
                x.glass(i, 0, 2, 1);
            }
            for (int f = 0; f < 4; f++) {
                x.layer(f, 1, 3, 1);
            }
            x.lens(10);
            for (int state = 0; state < 4; state++) {
                x.view(0, state, 0);
                for (int s = 0; s < 10; s++) {
                    fraction("share " + s, x, x.share(s), 0, 1);
                    fraction("gap " + s, x, x.worked(s, 1), 0, 1);
                }
            }
        });
        edge("p9", "SURFACES 1 .. 10", () -> {
            for (int m = 1; m <= 10; m++) {
                House x = new House();
                due("lens of " + m, x.lens(m), 0);
                due("surfaces", x.told(0, 0), m);
                due("its last one", x.stop(0, m - 1), 1);
                due("none behind it", x.stop(0, m), BAD);
            }
            for (int m : new int[] {0, -1, 11, 255, 256, Integer.MIN_VALUE, Integer.MAX_VALUE}) {
                bad("lens of " + m, x -> x.lens(m));
            }
        });
        edge("p9", "8 LENSES: FULL", () -> {
            House x = new House();
            for (int l = 0; l < 8; l++) {
                due("lens", x.lens(1), l);
            }
            due("a ninth", x.lens(1), FULL);
            Edges.refused(Houses.EIGHT, "a ninth", h -> h.lens(1), FULL);
            Edges.refused(Houses.EIGHT, "BAD ahead of FULL, 0", h -> h.lens(0), BAD);
            Edges.refused(Houses.EIGHT, "BAD ahead of FULL, 11", h -> h.lens(11), BAD);
        });
    }

    private static void data() {
        edge("p10", "sorts 0 to 3 of a SURFACE", () -> {
            House x = new House();
            x.lens(2);
            for (int sort = 0; sort < 4; sort++) {
                due("sort " + sort, x.set(0, 1, sort, sort + 1, 7), sort + 1);
            }
            for (int sort = 0; sort < 4; sort++) {
                fraction("each its own, " + sort, x, x.datum(0, 1, sort), sort + 1, 7);
                fraction("not of the other one, " + sort, x, x.datum(0, 0, sort), 0, 1);
            }
            for (int sort : new int[] {-1, 4, 5, 6, 7, Integer.MIN_VALUE, Integer.MAX_VALUE}) {
                bad("sort " + sort + " of a surface", h -> h.set(0, 0, sort, 1, 2));
            }
        });
        edge("p10", "sorts 4 to 6 of the LENS, surface NONE", () -> {
            House x = new House();
            x.lens(2);
            for (int sort = 4; sort < 7; sort++) {
                due("sort " + sort, x.set(0, NONE, sort, sort, 7), sort - 3);
                fraction("datum", x, x.datum(0, NONE, sort), sort, 7);
            }
            for (int sort : new int[] {-1, 0, 1, 2, 3, 7, Integer.MIN_VALUE, Integer.MAX_VALUE}) {
                bad("sort " + sort + " of none", h -> h.set(0, NONE, sort, 1, 2));
            }
            bad("surface -2", h -> h.set(0, -2, 4, 1, 2));
            bad("surface 255", h -> h.set(0, 255, 4, 1, 2));
            bad("surface 4", h -> h.set(0, 4, 5, 1, 2));
        });
        edge("2", "HALF: 0 and more", () -> {
            House x = new House();
            x.lens(1);
            due("0", x.set(0, 0, 3, 0, 1), 1);
            due("the least", x.set(0, 0, 3, 1, Edges.TOLD - 1), 2);
            due("below 0", x.set(0, 0, 3, -1, Edges.TOLD - 1), BAD);
            fraction("stays", x, x.datum(0, 0, 3), 1, Edges.TOLD - 1);
        });
        edge("2", "OBJECT: 0 and more", () -> {
            House x = new House();
            x.lens(1);
            due("0", x.set(0, NONE, 4, 0, 1), 1);
            due("the least", x.set(0, NONE, 4, 1, Edges.TOLD - 1), 2);
            due("below 0", x.set(0, NONE, 4, -1, Edges.TOLD - 1), BAD);
            fraction("stays", x, x.datum(0, NONE, 4), 1, Edges.TOLD - 1);
        });
        edge("2", "FIELD, BEAM: any, as CURVATURE, GAP, CONIC", () -> {
            House x = new House();
            x.lens(1);
            due("field", x.set(0, NONE, 5, -1, 3), 1);
            due("beam", x.set(0, NONE, 6, -2, 3), 2);
            due("beam 0", x.set(0, NONE, 6, 0, 3), 3);
            for (int sort = 0; sort < 3; sort++) {
                due("sort " + sort, x.set(0, 0, sort, -1, 3), 4 + sort);
                fraction("datum", x, x.datum(0, 0, sort), -1, 3);
            }
        });
        edge("p11", "a GLASS 0 .. 7, 8 MIRROR", () -> {
            House x = new House();
            x.lens(1);
            for (int what = 0; what < 9; what++) {
                due("behind " + what, x.behind(0, 0, what), what + 1);
                due("mirrors", x.told(0, 4), what == 8 ? 1 : 0);
                due("told", x.move(what + 1, 4), what);
            }
            for (int what : new int[] {-1, 9, 255, 256, Integer.MIN_VALUE, Integer.MAX_VALUE}) {
                bad("behind " + what, h -> h.behind(0, 0, what));
            }
        });
        edge("p12", "the STOP: each SURFACE", () -> {
            House x = new House();
            x.lens(10);
            for (int s = 9; s >= 0; s--) {
                due("stop", x.stop(0, s), 10 - s);
                due("told", x.told(0, 2), s);
            }
        });
        edge("p16", "a FILM 0 .. 3, or NONE", () -> {
            House x = new House();
            x.glass(1, 0, 2, 1);
            x.layer(3, 1, 3, 1);
            x.lens(1);
            x.behind(0, 0, 1);
            x.view(0, 0, 0);
            for (int film = 0; film < 4; film++) {
                due("film " + film, x.coat(0, 0, film), film + 2);
                due("told", x.move(film + 2, 4), film);
            }
            // p = 2/3, q = 3: s = (2/3 - 3) / (2/3 + 3)
            fraction("film 3", x, x.share(0), 49, 121);
            due("none", x.coat(0, 0, NONE), 6);
            fraction("without", x, x.share(0), 1, 9);
            for (int film : new int[] {-2, 4, 255, Integer.MIN_VALUE, Integer.MAX_VALUE}) {
                bad("film " + film, h -> h.coat(0, 0, film));
            }
        });
    }

    private static void picking() {
        edge("p13", "from a SURFACE ahead: 0 up to the one just ahead", () -> {
            House x = new House();
            x.lens(10);
            int moves = 1;
            for (int s = 0; s < 10; s++) {
                for (int from = -1; from <= 10; from++) {
                    boolean ahead = from >= 0 && from < s;
                    due("surface " + s + " from " + from, x.pick(0, s, 0, from, 1, 1), ahead ? moves : BAD);
                    moves += ahead ? 1 : 0;
                    due("how", x.how(0, s, 0), from < 0 || s == 0 ? 0 : 1 + Math.min(from, s - 1));
                }
            }
            bad("surface 0 has none ahead", h -> h.pick(0, 0, 0, 0, 1, 1));
            bad("from itself", h -> h.pick(0, 2, 0, 2, 1, 1));
            bad("from behind", h -> h.pick(0, 2, 0, 3, 1, 1));
            bad("from -1", h -> h.pick(0, 2, 0, -1, 1, 1));
            for (int from : EXTREMES) {
                bad("from " + from, h -> h.pick(0, 2, 0, from, 1, 1));
            }
        });
        edge("p13", "sorts 0 to 2", () -> {
            House x = new House();
            x.lens(2);
            for (int sort = 0; sort < 3; sort++) {
                due("sort " + sort, x.pick(0, 1, sort, 0, 5, 10), 1 + sort);
                due("how", x.how(0, 1, sort), 1);
                fraction("so many times", x, x.datum(0, 1, sort), 1, 2);
            }
            for (int sort : new int[] {-1, 3, 4, 5, 6, Integer.MIN_VALUE, Integer.MAX_VALUE}) {
                bad("sort " + sort, h -> h.pick(0, 1, sort, 0, 1, 1));
                bad("sort " + sort + " of none", h -> h.pick(0, NONE, sort, 0, 1, 1));
            }
        });
        edge("p13", "LENSES and SURFACES that there are", () -> {
            House x = new House();
            due("no lens", x.pick(0, 1, 0, 0, 1, 1), BAD);
            x.lens(10);
            due("the last surface from the first", x.pick(0, 9, 1, 0, 1, 1), 1);
            due("the last surface from the one ahead", x.pick(0, 9, 1, 8, 1, 1), 2);
            due("surface 10", x.pick(0, 10, 1, 9, 1, 1), BAD);
            bad("surface 4 of 4", h -> h.pick(0, 4, 0, 0, 1, 1));
            bad("surface -1", h -> h.pick(0, -1, 0, 0, 1, 1));
            bad("lens 4 of 4", h -> h.pick(4, 1, 0, 0, 1, 1));
            bad("lens -1", h -> h.pick(-1, 1, 0, 0, 1, 1));
            for (int n : EXTREMES) {
                bad("surface " + n, h -> h.pick(0, n, 0, 0, 1, 1));
                bad("lens " + n, h -> h.pick(n, 1, 0, 0, 1, 1));
            }
        });
        edge("2", "PICKED UP: k times the worked one, k 0 and below 0, too", () -> {
            House x = new House();
            x.lens(3);
            x.view(0, 0, 0);
            for (int sort = 0; sort < 3; sort++) {
                int k = sort;
                x.set(0, 0, k, 3, 1);
                x.pick(0, 1, k, 0, -2, 1);
                x.pick(0, 2, k, 1, 1, 3);
                fraction("-2 times", x, x.worked(1, k), -6, 1);
                fraction("a pick up of a pick up", x, x.worked(2, k), -2, 1);
                x.pick(0, 2, k, 1, 0, 1);
                fraction("0 times", x, x.worked(2, k), 0, 1);
                fraction("of the same sort", x, x.worked(1, (k + 1) % 3), 0, 1);
                x.set(0, 1, k, 0, 1);
            }
        });
        edge("p14", "sorts 0 and 1", () -> {
            House x = new House();
            x.lens(2);
            for (int sort = 0; sort < 2; sort++) {
                due("sort " + sort, x.solve(0, 0, sort, 5, 10), 1 + sort);
                due("how", x.how(0, 0, sort), 20);
                fraction("solved for", x, x.datum(0, 0, sort), 1, 2);
            }
            for (int sort : new int[] {-1, 2, 3, 4, 5, 6, Integer.MIN_VALUE, Integer.MAX_VALUE}) {
                bad("sort " + sort, h -> h.solve(0, 0, sort, 1, 1));
                bad("sort " + sort + " of none", h -> h.solve(0, NONE, sort, 1, 1));
            }
        });
        edge("p15", "STATES 1 to 3", () -> {
            House x = new House();
            x.lens(1);
            for (int state = 1; state < 4; state++) {
                due("state " + state, x.zoom(0, 0, state, state, 7), state);
            }
            for (int state = 0; state < 4; state++) {
                x.view(0, state, 0);
                fraction("gap in " + state, x, x.worked(0, 1), state, state == 0 ? 1 : 7);
            }
            for (int state : new int[] {-1, 0, 4, Integer.MIN_VALUE, Integer.MAX_VALUE}) {
                bad("state " + state, h -> h.zoom(0, 0, state, 1, 1));
            }
        });
    }

    private static void standing() {
        edge("2", "telling a datum, picking it up, solving it: the latest stands", () -> {
            House x = new House();
            x.lens(2);
            x.set(0, 0, 1, 4, 1);
            x.set(0, NONE, 4, 1, 1);
            x.view(0, 0, 0);
            x.set(0, 1, 1, 5, 1);
            due("told", x.how(0, 1, 1), 0);
            fraction("told", x, x.worked(1, 1), 5, 1);
            x.pick(0, 1, 1, 0, 2, 1);
            due("picked up", x.how(0, 1, 1), 1);
            fraction("picked up", x, x.worked(1, 1), 8, 1);
            x.solve(0, 1, 1, 9, 1);
            due("solved", x.how(0, 1, 1), 20);
            // y is 1 + 4, u' 1
            fraction("solved", x, x.worked(1, 1), 4, 1);
            x.pick(0, 1, 1, 0, 3, 1);
            due("picked up again", x.how(0, 1, 1), 1);
            fraction("picked up again", x, x.worked(1, 1), 12, 1);
            x.set(0, 1, 1, 7, 1);
            due("told again", x.how(0, 1, 1), 0);
            fraction("told again", x, x.worked(1, 1), 7, 1);
        });
        edge("2", "what is told for a STATE stays, whatever is told of the GAP later", () -> {
            House x = zoomed();
            fraction("told for the state", x, x.worked(1, 1), 6, 1);
            x.set(0, 1, 1, 9, 1);
            fraction("told later", x, x.worked(1, 1), 6, 1);
            x.view(0, 0, 0);
            fraction("in state 0", x, x.worked(1, 1), 9, 1);
            x.view(0, 3, 0);
            fraction("in a state that is not told", x, x.worked(1, 1), 9, 1);
        });
        edge("2", "it counts as long as the GAP is neither picked up nor solved", () -> {
            House x = zoomed();
            x.pick(0, 1, 1, 0, 2, 1);
            fraction("picked up", x, x.worked(1, 1), 8, 1);
            x.solve(0, 1, 1, 10, 1);
            fraction("solved", x, x.worked(1, 1), 5, 1);
            x.set(0, 1, 1, 3, 1);
            fraction("told again", x, x.worked(1, 1), 6, 1);
            fraction("as told", x, x.datum(0, 1, 1), 3, 1);
        });
        edge("2", "a ZOOM is told besides: as it was told latest of the GAP stays", () -> {
            House x = zoomed();
            fraction("datum", x, x.datum(0, 1, 1), 0, 1);
            due("how", x.how(0, 1, 1), 0);
            x.solve(0, 1, 1, 10, 1);
            x.zoom(0, 1, 3, 8, 1);
            due("still solved", x.how(0, 1, 1), 20);
        });
        edge("2", "MEDIA: turned about if the number of MIRRORS is odd; behind a MIRROR -N", () -> {
            House x = new House();
            x.glass(1, 0, 2, 1);
            x.lens(6);
            x.set(0, NONE, 4, 1, 1);
            int[] behind = {1, 8, 0, 8, 1, 0};
            int[] want = {2, -2, -1, 1, 2, 1};
            for (int s = 0; s < 6; s++) {
                x.behind(0, s, behind[s]);
            }
            x.view(0, 0, 0);
            // flat: N u is the same all along, so that u' is 1 / N'
            for (int s = 0; s < 6; s++) {
                fraction("u' at " + s, x, x.ray(s, 2), want[s] < 0 ? -1 : 1, Math.abs(want[s]));
            }
        });
        edge("2", "CURVATURE solved: LOST where y is 0", () -> {
            House x = solvable();
            fraction("y is 1", x, x.worked(0, 0), 2, 1);
            x.set(0, NONE, 6, 0, 1);
            Edges.lost("y is 0", x, x.worked(0, 0));
        });
        edge("2", "CURVATURE solved: LOST where N' - N is 0", () -> {
            House x = solvable();
            x.glass(1, 0, 1, 1);
            Edges.lost("both are 1", x, x.worked(0, 0));
        });
        edge("2", "solved by WAVE 0, whichever is seen", () -> {
            House x = solvable();
            x.glass(1, 1, 5, 1);
            x.view(0, 0, 1);
            fraction("worked", x, x.worked(0, 0), 2, 1);
        });
        edge("2", "solved with the ray that has come through the SURFACES ahead, by WAVE 0", () -> {
            House x = new House();
            x.glass(1, 0, 2, 1);
            x.glass(1, 1, 5, 1);
            x.glass(1, 2, 7, 1);
            x.lens(3);
            x.set(0, NONE, 4, 4, 1);
            x.set(0, 0, 0, 1, 1);
            x.behind(0, 0, 1);
            x.set(0, 0, 1, 1, 1);
            x.solve(0, 1, 0, 1, 1);
            x.solve(0, 1, 1, 3, 1);
            for (int wave = 0; wave < 3; wave++) {
                x.view(0, 0, wave);
                // u 1/4, u' (1/4 - 1) / 2 = -3/8, y 5/8: ((2 (-3/8)) - 1) / ((5/8) (1 - 2)) = 14/5; then (3 - 5/8) / 1
                fraction("curvature by wave " + wave, x, x.worked(1, 0), 14, 5);
                fraction("gap by wave " + wave, x, x.worked(1, 1), 19, 8);
            }
            x.view(0, 0, 0);
            fraction("so the angle is", x, x.ray(1, 2), 1, 1);
            fraction("and the height", x, x.ray(2, 0), 3, 1);
        });
        edge("2", "GAP solved: LOST where u' is 0", () -> {
            House x = new House();
            x.lens(1);
            x.view(0, 0, 0);
            x.solve(0, 0, 1, 5, 1);
            Edges.lost("u' is 0", x, x.worked(0, 1));
            x.solve(0, 0, 1, 1, 1);
            Edges.lost("0 by 0", x, x.worked(0, 1));
            x.set(0, NONE, 4, 2, 1);
            x.solve(0, 0, 1, 5, 1);
            fraction("u' is 1/2", x, x.worked(0, 1), 8, 1);
        });
    }
    /** Two flat SURFACES, a ray that starts at 1 with an angle of 1; the second GAP is told for STATE 2, which is seen. */
    private static House zoomed() {
        House x = new House();
        x.lens(2);
        x.set(0, 0, 1, 4, 1);
        x.set(0, NONE, 4, 1, 1);
        x.zoom(0, 1, 2, 6, 1);
        x.view(0, 2, 0);
        return x;
    }
    /** (0 - (2 (-1))) / (1 (2 - 1)) is 2. */
    private static House solvable() {
        House x = new House();
        x.glass(1, 0, 2, 1);
        x.lens(1);
        x.behind(0, 0, 1);
        x.solve(0, 0, 0, -1, 1);
        x.view(0, 0, 0);
        return x;
    }

    // ---- HEADS

    private static void undoing() {
        edge("p17", "NO: the HEAD is a MOVE 0", () -> {
            House x = new House();
            x.lens(1);
            due("at first", x.undo(0), NO);
            x.stop(0, 0);
            due("one back", x.undo(0), 2);
            due("no further", x.undo(0), NO);
            due("moves", x.count(1), 3);
            Edges.refused(Houses.RICH, "a lens without more", h -> h.undo(3), NO);
        });
        edge("p17", "NO, too, of a branch of a MOVE 0", () -> {
            House x = new House();
            x.lens(1);
            x.stop(0, 0);
            due("branch", x.branch(0), 1);
            due("undo", x.undo(1), NO);
            due("the first one's is another", x.undo(0), 3);
        });
        edge("p17", "LENSES that there are", () -> {
            House x = new House();
            due("none", x.undo(0), BAD);
            bad("lens 4 of 4", h -> h.undo(4));
            bad("lens -1", h -> h.undo(-1));
            for (int l : EXTREMES) {
                bad("lens " + l, h -> h.undo(l));
            }
        });
        edge("p17", "all MOVES of a LENS, one by one", () -> {
            House x = new House();
            x.lens(2);
            for (int i = 1; i < 60; i++) {
                x.set(0, 0, 0, i, 1);
            }
            for (int i = 58; i >= 0; i--) {
                due("undo", x.undo(0), 118 - i);
                due("head", x.told(0, 1), i);
                due("way", x.told(0, 3), i + 1);
                Edges.fraction("datum", x, x.datum(0, 0, 0), i, 1);
            }
            due("at the end", x.undo(0), NO);
        });
        edge("7", "a MOVE behind an undo() has the HEAD BEFORE it, not the latest MOVE", () -> {
            House x = new House();
            x.lens(2);
            x.set(0, 0, 0, 1, 1);
            x.set(0, 0, 1, 1, 1);
            x.undo(0);
            due("move", x.set(0, 0, 2, 1, 1), 4);
            due("before", x.move(4, 2), 1);
            due("way", x.told(0, 3), 3);
            fraction("the undone one is not in it", x, x.datum(0, 0, 1), 0, 1);
        });
        edge("p18", "a MOVE of kinds 0 to 7", () -> {
            House x = new House();
            x.lens(2);
            x.set(0, 0, 0, 1, 1);
            x.behind(0, 0, 1);
            x.stop(0, 1);
            x.pick(0, 1, 0, 0, 1, 1);
            x.solve(0, 0, 1, 1, 1);
            x.zoom(0, 0, 1, 1, 1);
            for (int move = 0; move < 7; move++) {
                due("kind " + move, x.branch(move), move + 1);
                due("head", x.told(move + 1, 1), move);
                due("way", x.told(move + 1, 3), move + 1);
            }
            House y = new House();
            y.lens(1);
            y.coat(0, 0, 1);
            y.undo(0);
            due("kind 7", y.branch(1), 1);
            due("kind 8", y.branch(2), BAD);
            due("the branch's own kind 8", y.branch(3), BAD);
            due("none", y.branch(4), BAD);
        });
        edge("p18", "branch: BAD", () -> {
            Edges.refused(Houses.BLANK, "no move", h -> h.branch(0), BAD);
            bad("a MOVE 8", h -> h.branch(20));
            bad("another MOVE 8", h -> h.branch(21));
            bad("just behind the last one", h -> h.branch(37));
            bad("-1", h -> h.branch(-1));
            for (int m : EXTREMES) {
                bad("move " + m, h -> h.branch(m));
            }
            due("37 moves", Houses.RICH.house().count(1), 37);
            due("the last one", Houses.RICH.house().branch(36), 4);
        });
        edge("p18", "8 LENSES: FULL, behind BAD", () -> {
            House x = new House();
            x.lens(1);
            for (int l = 1; l < 8; l++) {
                due("branch", x.branch(0), l);
            }
            due("a ninth", x.branch(0), FULL);
            Edges.refused(Houses.EIGHT, "a ninth", h -> h.branch(0), FULL);
            Edges.refused(Houses.EIGHT, "of a MOVE 8", h -> h.branch(20), BAD);
            Edges.refused(Houses.EIGHT, "of none", h -> h.branch(41), BAD);
        });
    }

    // ---- MERGING

    /** A LENS of two with a MOVE, and a branch of it; what both tell comes behind. */
    private static House parted() {
        House x = new House();
        x.lens(2);
        x.set(0, 1, 3, 1, 1);
        x.branch(1);
        return x;
    }
    interface Both {
        void tell(House x, int lens);
    }
    private static void conflict(String what, int conflicts, Both first, Both second) {
        House x = parted();
        first.tell(x, 0);
        second.tell(x, 1);
        int had = x.count(1);
        int length = x.told(1, 3) - 2;
        due(what, x.merge(0, 1), conflicts == 0 ? length : -10 - conflicts);
        due(what + ", moves", x.count(1), conflicts == 0 ? had + length : had);
    }

    private static void merging() {
        edge("p19", "BAD: LENSES that there are not", () -> {
            Edges.refused(Houses.BLANK, "none", x -> x.merge(0, 0), BAD);
            for (int l : new int[] {-1, 4, Integer.MIN_VALUE, Integer.MAX_VALUE}) {
                bad("first " + l, x -> x.merge(l, 0));
                bad("second " + l, x -> x.merge(0, l));
                bad("both " + l, x -> x.merge(l, l));
            }
        });
        edge("p19", "one and the same: 0", () -> {
            for (int l = 0; l < 4; l++) {
                int lens = l;
                Edges.refused(Houses.RICH, "lens " + l, x -> x.merge(lens, lens), 0);
                Edges.refused(Houses.FULL, "lens " + l + " with 400 moves", x -> x.merge(lens, lens), 0);
            }
        });
        edge("p19", "NO: nothing in common", () -> {
            Edges.refused(Houses.RICH, "two trees", x -> x.merge(0, 2), NO);
            Edges.refused(Houses.RICH, "the other way", x -> x.merge(2, 0), NO);
            Edges.refused(Houses.FULL, "NO ahead of FULL", x -> x.merge(0, 3), NO);
        });
        edge("p19", "only the MOVE 0 in common", () -> {
            House x = new House();
            x.lens(1);
            x.branch(0);
            x.set(0, 0, 0, 1, 1);
            x.set(1, 0, 1, 1, 1);
            due("merge", x.merge(0, 1), 1);
            fraction("its own", x, x.datum(0, 0, 0), 1, 1);
            fraction("the other one's", x, x.datum(0, 0, 1), 1, 1);
        });
        edge("p19", "nothing behind the PARTING: 0", () -> {
            House x = parted();
            due("both at it", x.merge(0, 1), 0);
            x.set(0, 0, 0, 1, 1);
            due("the second one at it", x.merge(0, 1), 0);
            due("the first one at it", x.merge(1, 0), 1);
        });
        edge("p19", "-10 less the CONFLICTS: one", () -> {
            Edges.refused(Houses.RICH, "one", x -> x.merge(0, 1), -11);
            Edges.refused(Houses.RICH, "the other way", x -> x.merge(1, 0), -11);
            Edges.refused(Houses.FULL, "ahead of FULL", x -> x.merge(0, 1), -11);
        });
        edge("p19", "-10 less the CONFLICTS: all of a LENS of ten", () -> {
            House x = new House();
            x.lens(10);
            x.branch(0);
            for (int l = 0; l < 2; l++) {
                for (int s = 0; s < 10; s++) {
                    x.behind(l, s, 1 + l);
                    x.coat(l, s, l);
                    for (int sort = 0; sort < 4; sort++) {
                        x.set(l, s, sort, 1 + l, 3);
                    }
                    for (int state = 1; state < 4; state++) {
                        x.zoom(l, s, state, 1 + l, 3);
                    }
                }
                for (int sort = 4; sort < 7; sort++) {
                    x.set(l, NONE, sort, 1 + l, 3);
                }
                x.stop(l, l);
            }
            due("94", x.merge(0, 1), -104);
            due("moves", x.count(1), 190);
        });
        edge("p19", "FULL: just enough room, and one too few", () -> {
            for (int behind = 1; behind <= 3; behind++) {
                House x = parted();
                for (int i = 0; i < behind; i++) {
                    x.set(1, 0, i, 1, 1);
                }
                x.lens(1);
                Houses.fill(x, 2, 400 - behind);
                due("room for " + behind, x.merge(0, 1), behind);
                due("moves", x.count(1), 400);
                int more = behind;
                Maker none = new Maker(() -> {
                    House y = parted();
                    for (int i = 0; i < more; i++) {
                        y.set(1, 0, i, 1, 1);
                    }
                    y.lens(1);
                    Houses.fill(y, 2, 401 - more);
                    return y;
                });
                Edges.refused(none, "one too few for " + behind, h -> h.merge(0, 1), FULL);
                due("nothing to get needs none", none.house().merge(1, 0), 0);
            }
        });
        edge("p19", "in order, as MOVES of its own", () -> {
            House x = parted();
            x.set(0, 0, 0, 9, 1);
            x.set(1, 0, 1, 1, 1);
            x.set(1, 0, 1, 2, 1);
            x.set(1, 0, 1, 3, 1);
            due("three", x.merge(0, 1), 3);
            fraction("the last one stands", x, x.datum(0, 0, 1), 3, 1);
            for (int i = 0; i < 3; i++) {
                due("lens", x.move(7 + i, 1), 0);
                due("before", x.move(7 + i, 2), i == 0 ? 3 : 6 + i);
                due("kind", x.move(7 + i, 0), 1);
            }
            due("the second one stays", x.told(1, 1), 6);
        });
    }

    private static void conflicts() {
        edge("7", "a CONFLICT: the last MOVES about it are not alike in their fraction", () -> {
            conflict("alike", 0, (x, l) -> x.set(l, 0, 0, 1, 2), (x, l) -> x.set(l, 0, 0, 2, 4));
            conflict("above", 1, (x, l) -> x.set(l, 0, 0, 1, 2), (x, l) -> x.set(l, 0, 0, 3, 2));
            conflict("below", 1, (x, l) -> x.set(l, 0, 0, 1, 2), (x, l) -> x.set(l, 0, 0, 1, 3));
            conflict("sign", 1, (x, l) -> x.set(l, 0, 0, 1, 2), (x, l) -> x.set(l, 0, 0, -1, 2));
        });
        edge("7", "a CONFLICT: not alike in kind", () -> {
            conflict("told and solved", 1, (x, l) -> x.set(l, 1, 0, 1, 2), (x, l) -> x.solve(l, 1, 0, 1, 2));
            conflict("told and picked up", 1, (x, l) -> x.set(l, 1, 0, 1, 2), (x, l) -> x.pick(l, 1, 0, 0, 1, 2));
            conflict("solved and picked up", 1, (x, l) -> x.solve(l, 1, 0, 1, 2), (x, l) -> x.pick(l, 1, 0, 0, 1, 2));
        });
        edge("7", "a CONFLICT: not alike in a number", () -> {
            House x = new House();
            x.lens(3);
            x.branch(0);
            x.pick(0, 2, 0, 0, 1, 2);
            x.pick(1, 2, 0, 1, 1, 2);
            due("picked up from another one", x.merge(0, 1), -11);
            conflict("behind", 1, (h, l) -> h.behind(l, 0, 1), (h, l) -> h.behind(l, 0, 2));
            conflict("behind alike", 0, (h, l) -> h.behind(l, 0, 1), (h, l) -> h.behind(l, 0, 1));
            conflict("stop", 1, (h, l) -> h.stop(l, 0), (h, l) -> h.stop(l, 1));
            conflict("stop alike", 0, (h, l) -> h.stop(l, 1), (h, l) -> h.stop(l, 1));
            conflict("film", 1, (h, l) -> h.coat(l, 0, 0), (h, l) -> h.coat(l, 0, NONE));
            conflict("film alike", 0, (h, l) -> h.coat(l, 0, NONE), (h, l) -> h.coat(l, 0, NONE));
            conflict("zoom", 1, (h, l) -> h.zoom(l, 0, 1, 1, 2), (h, l) -> h.zoom(l, 0, 1, 1, 3));
            conflict("zoom alike", 0, (h, l) -> h.zoom(l, 0, 1, 1, 2), (h, l) -> h.zoom(l, 0, 1, 1, 2));
        });
        edge("7", "no CONFLICT about two things", () -> {
            conflict("surfaces", 0, (x, l) -> x.set(l, 0, 0, 1, 2), (x, l) -> x.set(l, 1, 0, 1, 3));
            conflict("sorts", 0, (x, l) -> x.set(l, 0, 0, 1, 2), (x, l) -> x.set(l, 0, 1, 1, 3));
            conflict("sorts of the lens", 0, (x, l) -> x.set(l, NONE, 4, 1, 2), (x, l) -> x.set(l, NONE, 5, 1, 3));
            conflict("behind", 0, (x, l) -> x.behind(l, 0, 1), (x, l) -> x.behind(l, 1, 2));
            conflict("states", 0, (x, l) -> x.zoom(l, 0, 1, 1, 2), (x, l) -> x.zoom(l, 0, 2, 1, 3));
            conflict("zooms of two", 0, (x, l) -> x.zoom(l, 0, 1, 1, 2), (x, l) -> x.zoom(l, 1, 1, 1, 3));
            conflict("a zoom and its gap", 0, (x, l) -> x.zoom(l, 0, 1, 1, 2), (x, l) -> x.set(l, 0, 1, 1, 3));
            conflict("films", 0, (x, l) -> x.coat(l, 0, 1), (x, l) -> x.coat(l, 1, 2));
            conflict("film and behind", 0, (x, l) -> x.coat(l, 0, 1), (x, l) -> x.behind(l, 0, 2));
            conflict("stop and behind", 0, (x, l) -> x.stop(l, 1), (x, l) -> x.behind(l, 1, 2));
        });
        edge("7", "a CONFLICT is counted once, by the last MOVES", () -> {
            conflict("the last ones alike", 0, (x, l) -> {
                x.set(l, 0, 0, 1, 2);
                x.set(l, 0, 0, 5, 1);
            }, (x, l) -> x.set(l, 0, 0, 5, 1));
            conflict("the first ones alike", 1, (x, l) -> {
                x.set(l, 0, 0, 5, 1);
                x.set(l, 0, 0, 6, 1);
            }, (x, l) -> {
                x.set(l, 0, 0, 5, 1);
                x.set(l, 0, 0, 7, 1);
            });
        });
        edge("7", "MOVES ahead of the PARTING make none", () -> {
            House x = parted();
            x.set(0, 1, 3, 2, 1);
            due("told by one behind it", x.merge(1, 0), 1);
            fraction("datum", x, x.datum(1, 1, 3), 2, 1);
        });
        edge("7", "undone MOVES are in no WAY", () -> {
            House x = parted();
            x.set(0, 0, 0, 1, 2);
            x.set(1, 0, 0, 1, 3);
            due("a conflict", x.merge(0, 1), -11);
            x.undo(0);
            due("none then", x.merge(0, 1), 1);
            fraction("datum", x, x.datum(0, 0, 0), 1, 3);
        });
        edge("7", "the PARTING is the last MOVE in common", () -> {
            House x = parted();
            x.set(0, 0, 0, 1, 2);
            due("branch further on", x.branch(3), 2);
            x.set(2, 0, 0, 1, 5);
            due("what is behind the first parting", x.merge(1, 2), 2);
            due("what is behind the second", x.merge(0, 2), 1);
        });
    }

    // ---- what is asked of LENSES and MOVES

    private static void asking() {
        edge("p20", "false: there are none such", () -> {
            Edges.due("none", new House().same(0, 0), false);
            House x = Houses.RICH.house();
            for (int l : new int[] {-1, 4, Integer.MIN_VALUE, Integer.MAX_VALUE}) {
                Edges.due("first " + l, x.same(l, 0), false);
                Edges.due("second " + l, x.same(0, l), false);
                Edges.due("both " + l, x.same(l, l), false);
            }
            Edges.due("the last one and itself", x.same(3, 3), true);
        });
        edge("p20", "as many SURFACES", () -> {
            House x = new House();
            x.lens(9);
            x.lens(10);
            x.lens(10);
            Edges.due("9 and 10", x.same(0, 1), false);
            Edges.due("10 and 10", x.same(1, 2), true);
        });
        Map<String, Both> all = new LinkedHashMap<>();
        all.put("curvature", (x, l) -> x.set(l, 1, 0, 1, 2));
        all.put("gap", (x, l) -> x.set(l, 1, 1, 1, 2));
        all.put("conic", (x, l) -> x.set(l, 1, 2, 1, 2));
        all.put("half", (x, l) -> x.set(l, 1, 3, 1, 2));
        all.put("object", (x, l) -> x.set(l, NONE, 4, 1, 2));
        all.put("field", (x, l) -> x.set(l, NONE, 5, 1, 2));
        all.put("beam", (x, l) -> x.set(l, NONE, 6, 1, 2));
        all.put("picked up", (x, l) -> x.pick(l, 1, 0, 0, 0, 1));
        all.put("solved", (x, l) -> x.solve(l, 1, 0, 0, 1));
        all.put("behind", (x, l) -> x.behind(l, 1, 1));
        all.put("a mirror", (x, l) -> x.behind(l, 1, 8));
        all.put("stop", (x, l) -> x.stop(l, 1));
        all.put("zoom 1 of 0", (x, l) -> x.zoom(l, 1, 1, 0, 1));
        all.put("zoom 3 of 0", (x, l) -> x.zoom(l, 1, 3, 0, 1));
        all.put("film", (x, l) -> x.coat(l, 1, 0));
        all.forEach((what, both) -> edge("p20", "alike in " + what, () -> {
            House x = new House();
            x.lens(2);
            x.lens(2);
            both.tell(x, 0);
            Edges.due("told of one", x.same(0, 1), false);
            Edges.due("the other way", x.same(1, 0), false);
            both.tell(x, 1);
            Edges.due("told of both", x.same(0, 1), true);
            x.undo(0);
            Edges.due("undone", x.same(0, 1), false);
        }));
        edge("p20", "alike at each SURFACE of ten, and in each sort", () -> {
            for (int at = 0; at < 10; at++) {
                House x = new House();
                x.lens(10);
                x.lens(10);
                for (int kind = 0; kind < 9; kind++) {
                    if (kind < 4) {
                        x.set(0, at, kind, 1, 2);
                    } else if (kind < 7) {
                        x.zoom(0, at, kind - 3, 0, 1);
                    } else if (kind == 7) {
                        x.behind(0, at, 1);
                    } else {
                        x.coat(0, at, 0);
                    }
                    Edges.due("surface " + at + ", " + kind, x.same(0, 1), false);
                    x.undo(0);
                    Edges.due("surface " + at + ", " + kind + " undone", x.same(0, 1), true);
                }
            }
        });
        edge("p20", "alike in what a PICK UP is from", () -> {
            House x = new House();
            x.lens(3);
            x.lens(3);
            x.pick(0, 2, 0, 0, 1, 1);
            x.pick(1, 2, 0, 1, 1, 1);
            Edges.due("from two", x.same(0, 1), false);
            x.pick(1, 2, 0, 0, 1, 1);
            Edges.due("from one", x.same(0, 1), true);
        });
        edge("p20", "told as it was at first is alike, but what is told for a STATE", () -> {
            House x = new House();
            x.lens(1);
            x.lens(1);
            x.set(0, 0, 0, 0, 5);
            x.set(0, NONE, 6, 3, 3);
            x.behind(0, 0, 0);
            x.stop(0, 0);
            x.coat(0, 0, NONE);
            Edges.due("told as at first", x.same(0, 1), true);
            x.zoom(0, 0, 2, 0, 1);
            Edges.due("a gap of 0 for a state", x.same(0, 1), false);
        });
        edge("p21", "told: 0 to 4", () -> {
            House x = Houses.RICH.house();
            due("surfaces", x.told(0, 0), 4);
            due("head", x.told(0, 1), 18);
            due("stop", x.told(0, 2), 1);
            due("way", x.told(0, 3), 19);
            due("mirrors", x.told(0, 4), 0);
            for (int what : new int[] {-1, 5, Integer.MIN_VALUE, Integer.MAX_VALUE}) {
                bad("what " + what, h -> h.told(0, what));
            }
            for (int l : new int[] {-1, 4, Integer.MIN_VALUE, Integer.MAX_VALUE}) {
                bad("lens " + l, h -> h.told(l, 0));
            }
            Edges.refused(Houses.BLANK, "no lens", h -> h.told(0, 0), BAD);
        });
        edge("p21", "a WAY of one MOVE, and of 400", () -> {
            House x = new House();
            x.lens(1);
            due("one", x.told(0, 3), 1);
            Houses.fill(x, 0, 400);
            due("400", x.told(0, 3), 400);
            due("head", x.told(0, 1), 399);
        });
        edge("p21", "MIRRORS: none up to all ten", () -> {
            House x = new House();
            x.lens(10);
            for (int s = 0; s < 10; s++) {
                due("mirrors", x.told(0, 4), s);
                x.behind(0, s, 8);
            }
            due("all", x.told(0, 4), 10);
            x.behind(0, 4, 7);
            due("one less", x.told(0, 4), 9);
        });
        edge("p22", "datum: sorts as in set()", () -> {
            for (int sort : new int[] {-1, 4, 5, 6, 7, Integer.MIN_VALUE, Integer.MAX_VALUE}) {
                bad("sort " + sort + " of a surface", h -> h.datum(0, 0, sort));
            }
            for (int sort : new int[] {-1, 0, 1, 2, 3, 7, Integer.MIN_VALUE, Integer.MAX_VALUE}) {
                bad("sort " + sort + " of none", h -> h.datum(0, NONE, sort));
            }
            bad("surface -2", h -> h.datum(0, -2, 4));
        });
        edge("p22", "a datum of any size, as rounds and THE DISK tell it", () -> {
            House x = new House();
            x.lens(1);
            x.set(0, 0, 0, 1, 1);
            x.rewrite(1, 1 - Edges.FAR, Edges.FAR - 2);
            due("open", x.open(), 2);
            fraction("datum", x, x.datum(0, 0, 0), 1 - Edges.FAR, Edges.FAR - 2);
        });
        edge("p23", "how: BAD: sorts 4 to 6", () -> {
            for (int sort : new int[] {-1, 4, 5, 6, 7, Integer.MIN_VALUE, Integer.MAX_VALUE}) {
                bad("sort " + sort + " of none", h -> h.how(0, NONE, sort));
                bad("sort " + sort + " of a surface", h -> h.how(0, 0, sort));
            }
            for (int sort = 0; sort < 4; sort++) {
                int k = sort;
                due("sort " + sort, Houses.RICH.house().how(0, 0, sort), 0);
                bad("sort " + sort + " of none", h -> h.how(0, NONE, k));
            }
        });
        edge("p23", "1 + the SURFACE that it is PICKED UP from: 1 up to 9, 20 SOLVED", () -> {
            House x = new House();
            x.lens(10);
            for (int from = 0; from < 9; from++) {
                x.pick(0, 9, 2, from, 1, 1);
                due("from " + from, x.how(0, 9, 2), 1 + from);
            }
            x.solve(0, 9, 1, 1, 1);
            due("solved", x.how(0, 9, 1), 20);
        });
        edge("p24", "move: 0 to 4", () -> {
            for (int what : new int[] {-1, 5, Integer.MIN_VALUE, Integer.MAX_VALUE}) {
                bad("what " + what, h -> h.move(0, what));
            }
            for (int m : new int[] {-1, 37, Integer.MIN_VALUE, Integer.MAX_VALUE}) {
                bad("move " + m, h -> h.move(m, 0));
            }
            due("the last one", Houses.RICH.house().move(36, 0), 0);
            Edges.refused(Houses.BLANK, "none", h -> h.move(0, 0), BAD);
            due("the 400th", Houses.FULL.house().move(399, 1), 3);
            Edges.refused(Houses.FULL, "the 401st", h -> h.move(400, 1), BAD);
        });
        edge("p24", "NONE where there is none", () -> {
            House x = new House();
            x.lens(2);
            x.set(0, NONE, 5, 1, 1);
            x.stop(0, 1);
            x.coat(0, 1, NONE);
            x.undo(0);
            due("before a MOVE 0", x.move(0, 2), NONE);
            due("surface of a MOVE 0", x.move(0, 3), NONE);
            due("surface of a datum of the lens", x.move(1, 3), NONE);
            due("byte of a stop", x.move(2, 4), NONE);
            due("byte of no film", x.move(3, 4), NONE);
            due("what a MOVE 8 tells", x.move(4, 2), 2);
            due("surface of a MOVE 8", x.move(4, 3), NONE);
            due("byte of a MOVE 8", x.move(4, 4), NONE);
        });
        edge("p24", "the byte behind the SURFACE: m of 0, sort of 1, 4, 5, what is behind of 2, STATE of 6, FILM of 7", () -> {
            House x = new House();
            x.lens(10);
            x.set(0, 9, 3, 1, 1);
            x.behind(0, 9, 8);
            x.pick(0, 9, 2, 8, 1, 1);
            x.solve(0, 9, 1, 1, 1);
            x.zoom(0, 9, 3, 1, 1);
            x.coat(0, 9, 3);
            int[] want = {10, 3, 8, 2, 1, 3, 3};
            for (int m = 0; m < 7; m++) {
                due("move " + m, x.move(m, 4), want[m]);
                due("on the disk", x.disk(23 * m + 3), want[m]);
            }
        });
    }

    public static void main(String[] args) {
        surfaces();
        room();
        atFirst();
        data();
        picking();
        standing();
        undoing();
        merging();
        conflicts();
        asking();
        Edges.end("2", "7", "p9", "p10", "p11", "p12", "p13", "p14", "p15", "p16", "p17", "p18", "p19", "p20", "p21", "p22",
                "p23", "p24");
    }
}
