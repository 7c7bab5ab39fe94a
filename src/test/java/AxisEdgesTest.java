import java.util.LinkedHashMap;
import java.util.Map;

/** The edges of sections 3 and 4: the VIEW, near the axis, GHOSTS, FILMS, BEAMS: promises 25 to 33. */
public final class AxisEdgesTest {
    private static final int NONE = Edges.NONE, BAD = Edges.BAD, NO = Edges.NO;
    private static final int[] EXTREMES = {Integer.MIN_VALUE, Integer.MAX_VALUE};

    private static void edge(String place, String sentence, Runnable test) {
        Edges.edge(place, sentence, test);
    }
    private static void due(String what, long got, long want) {
        Edges.due(what, got, want);
    }
    private static void fraction(String what, House x, int answered, long above, long below) {
        Edges.fraction(what, x, answered, above, below);
    }
    private static void lost(String what, House x, int answered) {
        Edges.lost(what, x, answered);
    }
    private static void bad(String what, Edges.Call call) {
        Edges.refused(Houses.RICH, what, call, BAD);
    }

    /** One SURFACE of curvature 1 ahead of a glass of 2, seen: C is -1/2, D 1/2. */
    private static House one() {
        House x = new House();
        x.glass(1, 0, 2, 1);
        x.lens(1);
        x.set(0, 0, 0, 1, 1);
        x.behind(0, 0, 1);
        x.view(0, 0, 0);
        return x;
    }
    /** A flat LENS of so many SURFACES in glass 0, seen. */
    private static House flat(int surfaces) {
        House x = new House();
        x.lens(surfaces);
        x.view(0, 0, 0);
        return x;
    }

    private static void viewing() {
        edge("p25", "a LENS that there is", () -> {
            House x = new House();
            due("none", x.view(0, 0, 0), BAD);
            for (int l = 0; l < 8; l++) {
                due("not yet", x.view(l, 0, 0), BAD);
                x.lens(1);
                due("lens " + l, x.view(l, 0, 0), 1);
                due("count", x.count(6), l);
            }
            due("lens 8", x.view(8, 0, 0), BAD);
            bad("lens 4 of 4", h -> h.view(4, 0, 0));
            bad("lens -1", h -> h.view(-1, 0, 0));
            for (int l : EXTREMES) {
                bad("lens " + l, h -> h.view(l, 0, 0));
            }
        });
        edge("p25", "a STATE 0 .. 3", () -> {
            House x = flat(1);
            for (int s = 0; s < 4; s++) {
                due("state " + s, x.view(0, s, 0), 1);
                due("count", x.count(7), s);
            }
            for (int s : new int[] {-1, 4, Integer.MIN_VALUE, Integer.MAX_VALUE}) {
                bad("state " + s, h -> h.view(0, s, 0));
                bad("state " + s + " of another lens", h -> h.view(1, s, 0));
            }
        });
        edge("p25", "a WAVE 0 .. 2", () -> {
            House x = flat(1);
            for (int w = 0; w < 3; w++) {
                due("wave " + w, x.view(0, 0, w), 1);
                due("count", x.count(8), w);
            }
            for (int w : new int[] {-1, 3, Integer.MIN_VALUE, Integer.MAX_VALUE}) {
                bad("wave " + w, h -> h.view(0, 0, w));
                bad("wave " + w + " of another lens", h -> h.view(1, 0, w));
            }
        });
        edge("p25", "with another LENS than before VARIABLES and TOLERANCES go", () -> {
            House x = Houses.RICH.house();
            x.view(0, 3, 2);
            due("variables of the same one stay", x.count(3), 2);
            due("tolerances of the same one stay", x.count(4), 2);
            x.view(1, 3, 2);
            due("variables go", x.count(3), 0);
            due("tolerances go", x.count(4), 0);
            x.view(0, 3, 2);
            due("and do not come back", x.count(3) + x.count(4), 0);
        });
        Map<String, Edges.Call> needing = new LinkedHashMap<>();
        needing.put("p26 first", h -> h.first(0));
        needing.put("p27 worked", h -> h.worked(0, 0));
        needing.put("p28 ray", h -> h.ray(0, 0));
        needing.put("p29 term", h -> h.term(0, 0));
        needing.put("p29 term, the sum", h -> h.term(NONE, 0));
        needing.put("p30 ghost", h -> h.ghost(0, 1, 0));
        needing.put("p31 share", h -> h.share(0));
        needing.put("p32 beam", h -> h.beam(1, 1, 1, 1, 0));
        needing.put("p33 stable", h -> h.stable());
        needing.put("p34 trace", h -> h.trace(0.0, 0.0, 0.0, 0.0));
        needing.put("p36 spot", h -> h.spot(1, 0.0, 0.0));
        needing.put("p39 value", h -> h.value(3));
        needing.put("p40 vary", h -> h.vary(0, 0, 1, 1));
        needing.put("p41 rounds", h -> h.rounds(3, 0));
        needing.put("p42 tolerance", h -> h.tolerance(0, 0, 1, 1));
        needing.put("p43 worse", h -> h.worse(0, 0, 3));
        needing.put("p44 draws", h -> h.draws(0, 0, 3, 1, 1));
        Maker unseen = new Maker(() -> {
            House x = Houses.RICH.house();
            x.open();
            return x;
        });
        needing.forEach((name, call) -> edge(name.substring(0, 3), name + ": BAD without a VIEW", () -> {
            Edges.due("taken with one", call.of(Houses.RICH.house()) >= 0, true);
            Edges.refused(unseen, "behind an open()", call, BAD);
            Edges.refused(Houses.BLANK, "of a new object", call, BAD);
            House x = new House();
            x.lens(2);
            due("with a lens alone", call.of(x), BAD);
        }));
    }

    private static void firsts() {
        edge("p26", "FIRST 0 .. 12", () -> {
            for (int what = 0; what < 13; what++) {
                House x = Houses.RICH.house();
                Edges.due("first " + what, x.first(what) >= 0, true);
            }
            for (int what : new int[] {-1, 13, Integer.MIN_VALUE, Integer.MAX_VALUE}) {
                bad("first " + what, h -> h.first(what));
            }
        });
        edge("3", "FIRST 4, 5: LOST where C is 0", () -> {
            House x = one();
            fraction("-1 / C", x, x.first(4), 2, 1);
            fraction("-(A / C)", x, x.first(5), 2, 1);
            x.set(0, 0, 0, 0, 1);
            fraction("C", x, x.first(2), 0, 1);
            lost("-1 / C", x, x.first(4));
            lost("-(A / C)", x, x.first(5));
        });
        edge("3", "FIRST 6, 11: LOST where u' is 0", () -> {
            House x = one();
            fraction("-(y / u')", x, x.first(6), 2, 1);
            fraction("-1 / (2 u')", x, x.first(11), 1, 1);
            x.set(0, NONE, 4, 1, 1);
            // (1 - 1) / 2
            fraction("u'", x, x.ray(0, 2), 0, 1);
            lost("-(y / u')", x, x.first(6));
            lost("-1 / (2 u')", x, x.first(11));
            lost("7, by 0, too", x, x.first(7));
        });
        edge("p26", "FIRST 7: LOST, if OBJECT is 0", () -> {
            House x = one();
            lost("far away", x, x.first(7));
            x.set(0, NONE, 4, 2, 1);
            // u0 1/2, u' (1/2 - 1) / 2 = -1/4: (1/2) / (2 (-1/4))
            fraction("near", x, x.first(7), -1, 1);
            x.set(0, NONE, 4, 0, 1);
            lost("far away again", x, x.first(7));
        });
        edge("3", "FIRST 7: there where OBJECT is just not 0", () -> {
            House x = flat(1);
            x.set(0, NONE, 4, 1, Edges.TOLD - 1);
            fraction("the least object", x, x.first(7), 1, 1);
        });
        edge("3", "FIRST 8: LOST where u0~ is 0", () -> {
            House x = one();
            lost("field 0", x, x.first(8));
            x.set(0, NONE, 5, 1, 3);
            fraction("field 1/3", x, x.first(8), 0, 1);
        });
        edge("3", "FIRST 9: LOST where u'~ is 0", () -> {
            House x = one();
            lost("field 0", x, x.first(9));
            x.set(0, NONE, 5, 1, 3);
            fraction("field 1/3", x, x.first(9), 0, 1);
        });
        edge("3", "MARGINAL: angle 0 where OBJECT is 0, else BEAM / OBJECT", () -> {
            House x = flat(1);
            x.set(0, NONE, 6, 2, 1);
            fraction("far away", x, x.ray(0, 1), 0, 1);
            x.set(0, NONE, 4, 1, Edges.TOLD - 1);
            fraction("the least object", x, x.ray(0, 1), 2 * (Edges.TOLD - 1), 1);
            x.set(0, NONE, 4, Edges.TOLD - 1, 1);
            fraction("the greatest", x, x.ray(0, 1), 2, Edges.TOLD - 1);
            x.set(0, NONE, 6, 0, 1);
            fraction("a beam of 0", x, x.ray(0, 1), 0, 1);
            x.set(0, NONE, 6, 2, 1);
            fraction("the greatest object again", x, x.ray(0, 1), 2, Edges.TOLD - 1);
            x.set(0, NONE, 4, 0, 1);
            fraction("far away again", x, x.ray(0, 1), 0, 1);
        });
        edge("3", "a LENS of ten: each ray at each SURFACE", () -> {
            // flat, gaps of 1, GLASS 1 of 2 behind the last: A 1, B 9 at the STOP
            House x = new House();
            x.glass(1, 0, 2, 1);
            x.lens(10);
            for (int s = 0; s < 10; s++) {
                x.set(0, s, 1, 1, 1);
            }
            x.behind(0, 9, 1);
            x.stop(0, 9);
            x.set(0, NONE, 4, 1, 1);
            x.set(0, NONE, 5, 10, 1);
            x.set(0, NONE, 6, 3, 1);
            x.view(0, 0, 0);
            for (int s = 0; s < 10; s++) {
                fraction("y at " + s, x, x.ray(s, 0), 3 + 3 * s, 1);
                fraction("u at " + s, x, x.ray(s, 1), 3, 1);
                fraction("u' at " + s, x, x.ray(s, 2), 3, s == 9 ? 2 : 1);
                // u = -(10 / (1 + 9)), y = 10 - 1
                fraction("chief y at " + s, x, x.ray(s, 3), 9 - s, 1);
                fraction("chief u at " + s, x, x.ray(s, 4), -1, 1);
                fraction("chief u' at " + s, x, x.ray(s, 5), -1, s == 9 ? 2 : 1);
            }
            fraction("A", x, x.first(0), 1, 1);
            fraction("B", x, x.first(1), 9, 1);
            fraction("C", x, x.first(2), 0, 1);
            fraction("D", x, x.first(3), 1, 2);
            fraction("image", x, x.first(6), -20, 1);
            fraction("mag", x, x.first(7), 1, 1);
            fraction("8", x, x.first(8), 9, 1);
            fraction("9", x, x.first(9), 0, 1);
            fraction("10", x, x.first(10), 30, 1);
        });
        edge("3", "behind the last SURFACE, at it: its GAP does not count", () -> {
            House x = one();
            x.set(0, NONE, 5, 1, 3);
            long[][] before = new long[13][];
            for (int what = 0; what < 13; what++) {
                before[what] = new long[] {x.first(what), x.above(), x.below()};
            }
            due("beam", x.beam(3, 1, 5, 1, 0), 1);
            long above = x.above();
            x.set(0, 0, 1, 7, 1);
            for (int what = 0; what < 13; what++) {
                due("first " + what, x.first(what), before[what][0]);
                due("above", x.above(), before[what][1]);
                due("below", x.below(), before[what][2]);
            }
            due("beam", x.beam(3, 1, 5, 1, 0), 1);
            due("above", x.above(), above);
        });
        edge("3", "CHIEF, OBJECT 0: its height is LOST where A is 0 at the STOP", () -> {
            House x = one();
            x.lens(2);
            x.view(1, 0, 0);
            x.set(1, 0, 0, 1, 1);
            x.behind(1, 0, 1);
            x.behind(1, 1, 1);
            x.stop(1, 1);
            x.set(1, NONE, 5, 1, 1);
            x.set(1, 0, 1, 1, 1);
            // A is 1 - 1/2 at the STOP, B 1/2
            fraction("y", x, x.ray(0, 3), -1, 1);
            x.set(1, 0, 1, 2, 1);
            lost("A is 0", x, x.ray(0, 3));
            fraction("the angle is there", x, x.ray(0, 4), 1, 1);
            lost("u'", x, x.ray(0, 5));
            lost("y further on", x, x.ray(1, 3));
            lost("FIRST 10", x, x.first(10));
            fraction("MARGINAL is there", x, x.ray(1, 0), 0, 1);
            x.set(1, 0, 1, 3, 1);
            fraction("A is -1/2, B 3/2", x, x.ray(0, 3), 3, 1);
        });
        edge("3", "CHIEF, OBJECT not 0: LOST where (A OBJECT) + B is 0", () -> {
            House x = one();
            x.lens(2);
            x.view(1, 0, 0);
            x.set(1, 0, 0, 1, 1);
            x.behind(1, 0, 1);
            x.behind(1, 1, 1);
            x.stop(1, 1);
            x.set(1, NONE, 5, 1, 1);
            x.set(1, 0, 1, 4, 1);
            // A is 1 - 4/2 = -1 at the STOP, B 4/2
            x.set(1, NONE, 4, 3, 1);
            fraction("u", x, x.ray(0, 4), -1, 1);
            fraction("y", x, x.ray(0, 3), -2, 1);
            fraction("FIRST 8", x, x.first(8), -2, 1);
            // ((-2) (1/3)) - (1 (-1))
            fraction("FIRST 10", x, x.first(10), 1, 3);
            x.set(1, NONE, 4, 2, 1);
            lost("u", x, x.ray(0, 4));
            lost("y", x, x.ray(0, 3));
            lost("FIRST 8", x, x.first(8));
            fraction("MARGINAL is there", x, x.ray(0, 0), 1, 1);
        });
    }

    private static void rays() {
        edge("p27", "CURVATURE, GAP, CONIC (0 to 2)", () -> {
            House x = flat(1);
            for (int sort = 0; sort < 3; sort++) {
                x.set(0, 0, sort, sort + 2, 1);
                fraction("sort " + sort, x, x.worked(0, sort), sort + 2, 1);
            }
            for (int sort : new int[] {-1, 3, 4, Integer.MIN_VALUE, Integer.MAX_VALUE}) {
                bad("sort " + sort, h -> h.worked(0, sort));
            }
        });
        edge("p28", "0 to 5", () -> {
            for (int what = 0; what < 6; what++) {
                Edges.due("what " + what, Houses.RICH.house().ray(0, what) >= 0, true);
            }
            for (int what : new int[] {-1, 6, Integer.MIN_VALUE, Integer.MAX_VALUE}) {
                bad("what " + what, h -> h.ray(0, what));
            }
        });
        Map<String, Map<Integer, Edges.Call>> all = new LinkedHashMap<>();
        for (int s : new int[] {-2, -1, 0, 3, 4, 9, 10, Integer.MIN_VALUE, Integer.MAX_VALUE}) {
            all.computeIfAbsent("p27 worked", n -> new LinkedHashMap<>()).put(s, h -> h.worked(s, 0));
            all.computeIfAbsent("p28 ray", n -> new LinkedHashMap<>()).put(s, h -> h.ray(s, 0));
            all.computeIfAbsent("p31 share", n -> new LinkedHashMap<>()).put(s, h -> h.share(s));
            if (s != NONE) {
                all.computeIfAbsent("p29 term", n -> new LinkedHashMap<>()).put(s, h -> h.term(s, 0));
            }
        }
        all.forEach((name, calls) -> edge(name.substring(0, 3), name + ": SURFACES of the VIEW's LENS", () ->
                calls.forEach((s, call) -> {
                    if (s == 0 || s == 3) {
                        Edges.due("surface " + s, call.of(Houses.RICH.house()) >= 0, true);
                    } else {
                        bad("surface " + s, call);
                    }
                })));
        edge("2", "SURFACE 9 is the last one of ten", () -> {
            House x = flat(10);
            due("worked", x.worked(9, 0), 1);
            due("ray", x.ray(9, 0), 1);
            due("share", x.share(9), 1);
            due("term", x.term(9, 0), 1);
            due("ghost", x.ghost(8, 9, 1), 1);
            due("worked of 10", x.worked(10, 0), BAD);
            due("ray of 10", x.ray(10, 0), BAD);
            due("share of 10", x.share(10), BAD);
            due("term of 10", x.term(10, 0), BAD);
            due("ghost of 10", x.ghost(8, 10, 1), BAD);
        });
    }

    private static void terms() {
        edge("p29", "TERMS 0 to 6, of a SURFACE and of NONE", () -> {
            for (int term = 0; term < 7; term++) {
                Edges.due("term " + term, Houses.RICH.house().term(3, term) >= 0, true);
                Edges.due("sum " + term, Houses.RICH.house().term(NONE, term) >= 0, true);
            }
            for (int term : new int[] {-1, 7, Integer.MIN_VALUE, Integer.MAX_VALUE}) {
                bad("term " + term, h -> h.term(0, term));
                bad("sum " + term, h -> h.term(NONE, term));
            }
            bad("surface -2", h -> h.term(-2, 0));
        });
        edge("3", "TERMS 0 to 6, by hand, each with all that it hangs on", () -> {
            House x = new House();
            int[] ahead = {2, 3, 1};
            int[] behind = {4, 7, 2};
            for (int wave = 0; wave < 3; wave++) {
                x.glass(0, wave, ahead[wave], 1);
                x.glass(1, wave, behind[wave], 1);
            }
            x.lens(1);
            x.behind(0, 0, 1);
            x.set(0, 0, 0, 1, 1);
            x.set(0, NONE, 4, 2, 1);
            x.set(0, NONE, 5, 1, 2);
            x.view(0, 0, 0);
            // u 1/2, u' -1/4, u~ -1/4, y~ 0: P 3, Q -1/2, R -5/16, H 1/2, V 5/4 - 2/2
            long[][] want = {{45, 16}, {-15, 32}, {5, 64}, {1, 16}, {-3, 128}, {3, 4}, {-1, 8}};
            for (int term = 0; term < 7; term++) {
                fraction("term " + term, x, x.term(0, term), want[term][0], want[term][1]);
                fraction("sum " + term, x, x.term(NONE, term), want[term][0], want[term][1]);
            }
            x.set(0, 0, 2, 1, 1);
            // W is 2, w is 1
            fraction("term 0 with a conic", x, x.term(0, 0), 77, 16);
        });
        edge("3", "TERM 4: LOST where P is 0", () -> {
            House x = one();
            x.set(0, NONE, 5, 1, 2);
            // P 1, Q 1/2, R -1/4, H -1/2: (1/2) (1/16 + 1/8)
            fraction("P is 1", x, x.term(0, 4), 3, 32);
            x.set(0, 0, 0, 0, 1);
            lost("P is 0", x, x.term(0, 4));
            for (int term = 0; term < 4; term++) {
                fraction("term " + term, x, x.term(0, term), 0, 1);
            }
            lost("THE SUM", x, x.term(NONE, 4));
        });
        edge("3", "CONIC 0: nothing besides, though W would be LOST", () -> {
            House x = conic(1L << 21, 1, 1L << 21);
            fraction("term 0", x, x.term(0, 0), 1, 1L << 23);
            x.set(0, 0, 2, 1, Edges.TOLD - 1);
            lost("with the least conic", x, x.term(0, 0));
            lost("term 1", x, x.term(0, 1));
            lost("term 2", x, x.term(0, 2));
            lost("term 4", x, x.term(0, 4));
            fraction("term 3 has none besides", x, x.term(0, 3), 0, 1);
            fraction("nor term 5", x, x.term(0, 5), 0, 1);
            fraction("nor term 6", x, x.term(0, 6), 0, 1);
            x.set(0, 0, 2, 0, 1);
            fraction("conic 0 again", x, x.term(0, 0), 1, 1L << 23);
        });
        edge("3", "CONIC: W just below 2^62, and 2^62", () -> {
            House x = conic(1L << 20, 1, 1);
            // P 2^20, R -2^18: 2^58; W is k 2^60
            fraction("without", x, x.term(0, 0), 1L << 58, 1);
            x.set(0, 0, 2, 3, 1);
            fraction("3 2^60", x, x.term(0, 0), 13L << 58, 1);
            x.set(0, 0, 2, 4, 1);
            lost("2^62", x, x.term(0, 0));
            x.set(0, 0, 2, -4, 1);
            lost("-2^62", x, x.term(0, 0));
            x.set(0, 0, 2, -3, 1);
            fraction("-3 2^60", x, x.term(0, 0), -(11L << 58), 1);
        });
        edge("3", "CONIC not 0: W w besides, of terms 0, 1, 2, 4 alone", () -> {
            // the STOP is a flat SURFACE ahead, so that y~ is 3 where y is 2: P 2, Q 4, R -1/2, H -2; W is k
            // 3: -((4 1) ((1/2) - 1)) = 2; 4: (4 / 2) (16 + 2)
            long[] without = {4, 8, 16, 2, 36, 0, 0};
            long[] w = {16, 24, 36, 0, 54, 0, 0};
            House x = new House();
            for (int wave = 0; wave < 3; wave++) {
                x.glass(1, wave, 2, 1);
            }
            x.lens(2);
            x.set(0, 0, 1, 3, 1);
            x.set(0, 1, 0, 1, 1);
            x.behind(0, 1, 1);
            x.set(0, NONE, 5, 1, 1);
            x.set(0, NONE, 6, 2, 1);
            x.view(0, 0, 0);
            fraction("y", x, x.ray(1, 0), 2, 1);
            fraction("y~", x, x.ray(1, 3), 3, 1);
            for (int k = -1; k <= 1; k++) {
                x.set(0, 1, 2, k, 1);
                for (int term = 0; term < 7; term++) {
                    fraction("term " + term + " with " + k, x, x.term(1, term), without[term] + k * w[term], 1);
                }
            }
        });
        edge("3", "THE SUM: 0 and those of SURFACES 0, 1, .. in order, each step a SUM", () -> {
            // term 3 is -c, c, -c here
            House x = alternating();
            x.rewrite(1, -(1L << 61), 1);
            x.rewrite(2, (1L << 61) - 1, 1);
            x.rewrite(3, 1L << 61, 1);
            due("open", x.open(), 7);
            x.view(0, 0, 0);
            fraction("2^61", x, x.term(0, 3), 1L << 61, 1);
            fraction("2^61 - 1", x, x.term(1, 3), (1L << 61) - 1, 1);
            fraction("-2^61", x, x.term(2, 3), -(1L << 61), 1);
            fraction("by 2^62 - 1", x, x.term(NONE, 3), (1L << 61) - 1, 1);
            x.rewrite(2, 1L << 61, 1);
            due("open", x.open(), 7);
            x.view(0, 0, 0);
            lost("by 2^62", x, x.term(NONE, 3));
        });
    }
    /** One SURFACE of such a curvature ahead of a glass of 2, a BEAM of 1 / below. */
    private static House conic(long curvature, long above, long below) {
        House x = new House();
        x.glass(1, 0, 2, 1);
        x.glass(1, 1, 2, 1);
        x.glass(1, 2, 2, 1);
        x.lens(1);
        x.set(0, 0, 0, curvature, 1);
        x.set(0, NONE, 6, above, below);
        x.behind(0, 0, 1);
        x.view(0, 0, 0);
        return x;
    }
    /** Three SURFACES between glasses of 1 and 1/2, H 1; MOVES 1 to 3 tell their curvatures. */
    private static House alternating() {
        House x = new House();
        x.glass(1, 0, 1, 2);
        x.lens(3);
        x.set(0, 0, 0, 1, 1);
        x.set(0, 1, 0, 1, 1);
        x.set(0, 2, 0, 1, 1);
        x.behind(0, 0, 1);
        x.behind(0, 2, 1);
        x.set(0, NONE, 5, -1, 1);
        return x;
    }

    private static void ghosts() {
        edge("p30", "i below j", () -> {
            House x = flat(10);
            for (int i = -1; i <= 10; i++) {
                for (int j = -1; j <= 10; j++) {
                    boolean there = i >= 0 && i < j && j < 10;
                    due("ghost " + i + " " + j, x.ghost(i, j, 1), there ? 1 : BAD);
                }
            }
            bad("the same", h -> h.ghost(1, 1, 0));
            bad("the other way", h -> h.ghost(1, 0, 0));
            bad("surface 4", h -> h.ghost(0, 4, 0));
            bad("surface -1", h -> h.ghost(-1, 1, 0));
            for (int s : EXTREMES) {
                bad("i " + s, h -> h.ghost(s, 1, 0));
                bad("j " + s, h -> h.ghost(0, s, 0));
            }
        });
        edge("p30", "a LENS of one SURFACE has none", () -> {
            House x = flat(1);
            due("0 0", x.ghost(0, 0, 0), BAD);
            due("0 1", x.ghost(0, 1, 0), BAD);
        });
        edge("p30", "0 PLACE, 1 POWER", () -> {
            House y = one();
            y.lens(2);
            y.behind(1, 0, 1);
            y.set(1, NONE, 4, 1, 1);
            y.view(1, 0, 0);
            // u' 1/2, sent back -1/2, sent on 1/2, 1 behind the last; 1/9 at both and 8/9 at the two others
            fraction("0", y, y.ghost(0, 1, 0), -1, 1);
            fraction("1", y, y.ghost(0, 1, 1), 64, 81 * 81);
            for (int what : new int[] {-1, 2, Integer.MIN_VALUE, Integer.MAX_VALUE}) {
                bad("what " + what, h -> h.ghost(0, 2, what));
            }
        });
        edge("p30", "BAD: one is a MIRROR", () -> {
            for (int mirror = 0; mirror < 5; mirror++) {
                int at = mirror;
                Maker maker = new Maker(() -> {
                    House x = flat(5);
                    x.behind(0, at, 8);
                    return x;
                });
                if (at == 1 || at == 3) {
                    Edges.refused(maker, "mirror " + at, x -> x.ghost(1, 3, 0), BAD);
                    Edges.refused(maker, "power of mirror " + at, x -> x.ghost(1, 3, 1), BAD);
                } else {
                    Edges.due("place, mirror " + at, maker.house().ghost(1, 3, 0) >= 0, true);
                    due("power, mirror " + at, maker.house().ghost(1, 3, 1), 1);
                }
            }
        });
        edge("3", "a GHOST's PLACE is LOST where u' is 0", () -> {
            House x = flat(2);
            lost("flat", x, x.ghost(0, 1, 0));
            x.set(0, NONE, 4, 1, 1);
            // back with an angle of 1 turned to -1 at j, on with 1 behind i
            fraction("an object", x, x.ghost(0, 1, 0), -1, 1);
        });
        edge("3", "POWER of SURFACES that send nothing back is 0", () -> {
            House x = flat(3);
            fraction("power", x, x.ghost(0, 2, 1), 0, 1);
        });
        edge("3", "POWER: SURFACES between are passed three times, none where i is just ahead of j", () -> {
            House x = new House();
            x.glass(1, 0, 3, 1);
            x.lens(4);
            x.behind(0, 0, 1);
            x.behind(0, 2, 1);
            x.view(0, 0, 0);
            // 1/4 each: 3/4 at 0, 1 on the way, 1/4 at 2, 3/4 at 1 back, 1/4 at 0, 3/4 at 1, 2, 3
            fraction("one between", x, x.ghost(0, 2, 1), 729, 65536);
            // 3/4 at 0, 1/4 at 1, at 0, 3/4 at 1, 2, 3
            fraction("none between", x, x.ghost(0, 1, 1), 81, 4096);
            fraction("two between", x, x.ghost(0, 3, 1), 6561, 1048576);
        });
        edge("3", "PLACE: SURFACES between, and where i is just ahead of j", () -> {
            House x = new House();
            x.glass(1, 0, 2, 1);
            x.lens(3);
            x.behind(0, 1, 1);
            x.set(0, NONE, 4, 1, 1);
            x.set(0, 0, 1, 1, 1);
            x.set(0, 1, 1, 2, 1);
            x.view(0, 0, 0);
            // on: y 1, 2, 3 with u' 1, 1/2; sent back at 2: -1/2, y 4 at 1, u' -1 there, y 5 at 0; on 1, y 6, 1/2, y 7, 1
            fraction("one between", x, x.ghost(0, 2, 0), -7, 1);
            // sent back at 2: -1/2, y 4 at 1; sent on 1/2, y 5, 1
            fraction("none between", x, x.ghost(1, 2, 0), -5, 1);
        });
        edge("3", "1 of a MIRROR: SHARE, and POWER elsewhere", () -> {
            House x = new House();
            x.glass(1, 0, 3, 1);
            x.lens(4);
            x.behind(0, 0, 8);
            x.behind(0, 1, 1);
            x.behind(0, 3, 8);
            x.view(0, 0, 0);
            fraction("a mirror's share", x, x.share(0), 1, 1);
            fraction("1 and 3", x, x.share(1), 1, 4);
            fraction("3 and 1, both turned about", x, x.share(2), 1, 4);
            // to 2 through 0, 1: 3/4; back at 2, at 1: 1/16; on through 2, 3: 3/4
            fraction("power", x, x.ghost(1, 2, 1), 9, 256);
        });
    }

    private static void films() {
        edge("4", "quarters: odd ones count, even ones do not", () -> {
            for (int quarters = 0; quarters < 8; quarters++) {
                House x = coated();
                x.layer(0, quarters, 3, 1);
                // p = 2/3, q = 3: s = (2/3 - 3) / (2/3 + 3)
                fraction("quarters " + quarters, x, x.share(0), quarters % 2 == 1 ? 49 : 1, quarters % 2 == 1 ? 121 : 9);
            }
        });
        edge("4", "a FILM without LAYERS is as none", () -> {
            House x = coated();
            fraction("without layers", x, x.share(0), 1, 9);
            x.layer(0, 1, 3, 1);
            fraction("with one", x, x.share(0), 49, 121);
            x.film(0);
            fraction("without layers again", x, x.share(0), 1, 9);
        });
        edge("4", "8 LAYERS count, from the last to the first one", () -> {
            House x = coated();
            // p / q is 1 / 2 at first; a pair of 1, then 2 makes a fourth of it
            for (int i = 0; i < 8; i++) {
                x.layer(0, 1, i % 2 == 0 ? 2 : 1, 1);
            }
            fraction("p / q is 1 / 512", x, x.share(0), 511L * 511, 513L * 513);
            due("film", x.film(0), 8);
            for (int i = 0; i < 8; i++) {
                x.layer(0, 1, i % 2 == 0 ? 1 : 2, 1);
            }
            fraction("the other way: p / q is 128", x, x.share(0), 127L * 127, 129L * 129);
        });
        edge("4", "SHARE 0: N p is q; LOST where a step is", () -> {
            House x = coated();
            x.glass(1, 0, 4, 1);
            x.layer(0, 1, 2, 1);
            fraction("p 2, q 2", x, x.share(0), 0, 1);
            x.layer(0, 1, Edges.TOLD - 1, 1);
            lost("q n p of 2^80", x, x.share(0));
        });
        edge("p31", "SHARE without signs, by WAVE 0", () -> {
            House x = new House();
            x.glass(1, 0, 2, 1);
            x.glass(1, 1, 7, 1);
            x.lens(3);
            x.behind(0, 0, 8);
            x.behind(0, 1, 1);
            x.view(0, 0, 1);
            fraction("1 and 2, turned about", x, x.share(1), 1, 9);
            fraction("2 and 1, turned about", x, x.share(2), 1, 9);
        });
        edge("p32", "part 0 or 1", () -> {
            House x = flat(1);
            fraction("part 0", x, x.beam(2, 1, 3, 1, 0), 2, 1);
            fraction("part 1", x, x.beam(2, 1, 3, 1, 1), 3, 1);
            for (int part : new int[] {-1, 2, Integer.MIN_VALUE, Integer.MAX_VALUE}) {
                bad("part " + part, h -> h.beam(2, 1, 3, 1, part));
            }
        });
        edge("p32", "z above 0, x any", () -> {
            House x = flat(1);
            fraction("the least z", x, x.beam(0, 1, 1, Edges.TOLD - 1, 1), 1, Edges.TOLD - 1);
            fraction("x below 0", x, x.beam(1 - Edges.TOLD, 1, 1, 1, 0), 1 - Edges.TOLD, 1);
            bad("z 0", h -> h.beam(1, 1, 0, 1, 0));
            bad("z below 0", h -> h.beam(1, 1, -1, 1, 1));
        });
        edge("p32", "both parts, by hand", () -> {
            House x = one();
            // A 1, B 0, C -1/2, D 1/2: e 3, f 5, g -1, h -5/2, w 29/4
            fraction("part 0", x, x.beam(3, 1, 5, 1, 0), -62, 29);
            fraction("part 1", x, x.beam(3, 1, 5, 1, 1), 10, 29);
            House y = flat(2);
            y.set(0, 0, 1, 3, 1);
            fraction("through a gap of 3, part 0", y, y.beam(2, 1, 5, 1, 0), 5, 1);
            fraction("through a gap of 3, part 1", y, y.beam(2, 1, 5, 1, 1), 5, 1);
        });
        edge("p32", "LOST where a step is", () -> {
            House x = one();
            // g = (C x) + D with C -1/2, D 1/2: g g of 2^78 / 4
            lost("x of 2^40", x, x.beam(Edges.TOLD - 1, 1, 1, 1, 0));
            lost("z of 2^40", x, x.beam(1, 1, Edges.TOLD - 1, 1, 1));
            // x 1: g is 0, h is -z / 2, w z z / 4: ((e g) + (f h)) / w = -2
            fraction("g is 0", x, x.beam(1, 1, 6, 1, 0), -2, 1);
        });
    }
    /** A SURFACE with FILM 0 between 1 and 2. */
    private static House coated() {
        House x = new House();
        x.glass(1, 0, 2, 1);
        x.lens(1);
        x.behind(0, 0, 1);
        x.coat(0, 0, 0);
        x.view(0, 0, 0);
        return x;
    }

    private static void stability() {
        edge("p33", "above -2 and below 2: the upper end", () -> {
            // flat: A is 1, D is N0 / M
            House x = turned(0);
            x.glass(1, 0, 1, 1);
            due("2", x.stable(), 0);
            x.glass(1, 0, 1000000001, 1000000000);
            due("just below", x.stable(), 1);
            x.glass(1, 0, 1000000000, 1000000001);
            due("just above", x.stable(), 0);
        });
        edge("p33", "above -2 and below 2: the lower end", () -> {
            House x = turned(8);
            x.glass(1, 0, 1, 3);
            due("-2", x.stable(), 0);
            fraction("A + D", x, x.first(12), -2, 1);
            x.glass(1, 0, 333333333334L, 1000000000001L);
            due("just above", x.stable(), 1);
            x.glass(1, 0, 333333333334L, 1000000000003L);
            due("just below", x.stable(), 0);
        });
        edge("p33", "NO: it is LOST", () -> {
            Maker maker = new Maker(() -> {
                House x = flat(2);
                x.solve(0, 0, 1, 5, 1);
                x.datum(0, 0, 1);
                return x;
            });
            Edges.refused(maker, "A + D", h -> h.stable(), NO);
        });
        edge("p33", "THE FRACTION stays", () -> {
            House x = flat(1);
            x.set(0, 0, 2, 7, 9);
            x.datum(0, 0, 2);
            due("stable", x.stable(), 0);
            due("above", x.above(), 7);
            due("below", x.below(), 9);
        });
    }
    /** Two flat SURFACES, what is told behind the first, GLASS 1 behind the second. */
    private static House turned(int behind) {
        House x = new House();
        x.lens(2);
        x.behind(0, 0, behind);
        x.behind(0, 1, 1);
        x.view(0, 0, 0);
        return x;
    }

    public static void main(String[] args) {
        viewing();
        firsts();
        rays();
        terms();
        ghosts();
        films();
        stability();
        Edges.end("2", "3", "4", "p25", "p26", "p27", "p28", "p29", "p30", "p31", "p32", "p33");
    }
}
