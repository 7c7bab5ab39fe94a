import java.util.Arrays;
import java.util.function.LongFunction;

/** The edges of section 5: RAYS and SPOTS: promises 34 to 37. */
public final class RayEdgesTest {
    private static final int NONE = Edges.NONE, BAD = Edges.BAD, NO = Edges.NO;
    private static final double MOST = 1000000.0;

    private static void edge(String place, String sentence, Runnable test) {
        Edges.edge(place, sentence, test);
    }
    private static void due(String what, long got, long want) {
        Edges.due(what, got, want);
    }
    private static void due(String what, double got, double want) {
        Edges.due(what, got, want);
    }

    /** One SURFACE of radius 10 ahead of a glass of 3/2, a BEAM and a FIELD of one part in a million; seen. */
    private static House small() {
        House x = new House();
        x.glass(1, 0, 3, 2);
        x.lens(1);
        x.set(0, 0, 0, 1, 10);
        x.behind(0, 0, 1);
        x.set(0, NONE, 5, 1, 1000000);
        x.set(0, NONE, 6, 1, 1000000);
        x.view(0, 0, 0);
        return x;
    }
    /** The same with a BEAM of 1. */
    private static House single() {
        House x = small();
        x.set(0, NONE, 6, 1, 1);
        return x;
    }
    private static double[] marks(House x, int surfaces) {
        double[] out = new double[(surfaces + 1) * 7];
        for (int i = 0; i < out.length; i++) {
            out[i] = x.at(i / 7, i % 7);
        }
        return out;
    }
    private static double[] traced(double... told) {
        House x = small();
        due("passes", x.trace(told[0], told[1], told[2], told[3]), 0);
        return marks(x, 1);
    }

    private static void arguments() {
        String[] names = {"px", "py", "fx", "fy"};
        for (int i = 0; i < 4; i++) {
            int at = i;
            edge("5", names[i] + ": above -1000000.0 and below 1000000.0, else 0.0", () -> {
                double[] none = traced(0.25, 0.5, 0.75, 0.125);
                double[] told = {0.25, 0.5, 0.75, 0.125};
                told[at] = 0.0;
                double[] zero = traced(told);
                due("0.0 is seen", Arrays.equals(none, zero) ? 1 : 0, 0);
                for (double far : new double[] {MOST, -MOST, Math.nextUp(MOST), -Math.nextUp(MOST), Double.MAX_VALUE,
                    -Double.MAX_VALUE, Double.POSITIVE_INFINITY, Double.NEGATIVE_INFINITY, Double.NaN}) {
                    told[at] = far;
                    due(far + " is as 0.0", Arrays.equals(traced(told), zero) ? 1 : 0, 1);
                }
                for (double near : new double[] {Math.nextDown(MOST), -Math.nextDown(MOST)}) {
                    told[at] = near;
                    due(near + " is taken", Arrays.equals(traced(told), zero) ? 1 : 0, 0);
                }
            });
        }
        edge("5", "px just below 1000000.0 counts as it is", () -> {
            House x = small();
            double most = Math.nextDown(MOST);
            due("passes", x.trace(most, -most, 0.0, 0.0), 0);
            due("x", x.at(0, 0), most * (1.0 / 1000000.0));
            due("y", x.at(0, 1), -most * (1.0 / 1000000.0));
        });
        edge("p36", "fx, fy of a SPOT: above -1000000.0 and below 1000000.0, else 0.0", () -> {
            for (int i = 0; i < 2; i++) {
                double[] zero = spread(0.0, 0.0);
                for (double far : new double[] {MOST, -MOST, Double.NaN, Double.POSITIVE_INFINITY, Double.NEGATIVE_INFINITY}) {
                    due(far + " is as 0.0", Arrays.equals(i == 0 ? spread(far, 0.0) : spread(0.0, far), zero) ? 1 : 0, 1);
                }
                for (double near : new double[] {Math.nextDown(MOST), -Math.nextDown(MOST)}) {
                    due(near + " counts", Arrays.equals(i == 0 ? spread(near, 0.0) : spread(0.0, near), zero) ? 1 : 0, 0);
                }
            }
        });
    }
    private static double[] spread(double fx, double fy) {
        House x = small();
        due("all pass", x.spot(1, fx, fy), 5);
        double[] out = new double[6];
        for (int i = 0; i < 6; i++) {
            out[i] = x.spread(i);
        }
        return out;
    }

    private static void starts() {
        edge("5", "OBJECT 0: where a ray starts, by all four", () -> {
            House x = startHouse();
            Flown f = startFlown();
            // A is 1 - 2/30, B is 2 (2/3) at the STOP: -((4/15) / (14/15))
            Edges.fraction("y0~", x, x.ray(0, 3), -2, 7);
            f.d = -2.0 / 7.0;
            f.e = 1.0 / 5.0;
            x.first(6);
            f.v = (double) x.above() / (double) x.below();
            startsAlike(x, f);
        });
        edge("5", "OBJECT not 0: where a ray starts, by all four", () -> {
            House x = startHouse();
            x.set(0, NONE, 4, 30, 1);
            Flown f = startFlown();
            f.o = 30.0;
            f.field = 1.0 / 5.0;
            x.ray(0, 3);
            f.d = (double) x.above() / (double) x.below();
            x.first(6);
            f.v = (double) x.above() / (double) x.below();
            startsAlike(x, f);
        });
    }
    /** Radius 10 ahead of a glass of 3/2, 3 thick, a flat SURFACE behind with the STOP. */
    private static House startHouse() {
        House x = new House();
        x.glass(1, 0, 3, 2);
        x.lens(2);
        x.set(0, 0, 0, 1, 10);
        x.set(0, 0, 1, 2, 1);
        x.behind(0, 0, 1);
        x.stop(0, 1);
        x.set(0, NONE, 5, 1, 5);
        x.set(0, NONE, 6, 3, 2);
        x.view(0, 0, 0);
        return x;
    }
    private static Flown startFlown() {
        Flown f = new Flown(2);
        f.index = new double[] {1.0, 1.5, 1.0};
        f.c[0] = 1.0 / 10.0;
        f.t[0] = 2.0;
        f.b = 1.5;
        return f;
    }
    private static void startsAlike(House x, Flown f) {
        double[][] told = {{0.5, 0.0, 0.0, 0.0}, {0.0, 0.5, 0.0, 0.0}, {0.0, 0.0, 0.5, 0.0}, {0.0, 0.0, 0.0, 0.5},
            {0.25, -0.5, 0.75, -0.125}, {-1.0, 1.0, -1.0, 1.0}};
        for (double[] t : told) {
            f.fly(t[0], t[1], t[2], t[3]);
            due("passes", x.trace(t[0], t[1], t[2], t[3]), f.answer);
            for (int s = 0; s < 3; s++) {
                for (int what = 0; what < 7; what++) {
                    due("at " + s + " " + what, x.at(s, what), f.marks[s][what]);
                }
            }
        }
    }

    // ---- NO

    /** Told a trace and a spot that pass, then what makes the next ones be refused. */
    interface Change {
        void tell(House x);
    }
    private static Maker refusing(Change change) {
        return new Maker(() -> {
            House x = new House();
            x.glass(1, 0, 3, 2);
            x.lens(3);
            x.set(0, 0, 0, 1, 10);
            x.set(0, 0, 1, 3, 1);
            x.behind(0, 0, 1);
            x.set(0, NONE, 5, 1, 10);
            x.view(0, 0, 0);
            due("passes at first", x.trace(0.5, 0.25, 0.1, 0.0), 0);
            due("a spot at first", x.spot(1, 0.1, 0.0), 5);
            change.tell(x);
            x.datum(0, 0, 0);
            return x;
        });
    }
    private static void no(String what, Change change) {
        Maker maker = refusing(change);
        Edges.refused(maker, "trace, " + what, x -> x.trace(0.1, 0.1, 0.1, 0.1), NO);
        Edges.refused(maker, "spot, " + what, x -> x.spot(2, 0.1, 0.1), NO);
        // BAD comes ahead of NO
        Edges.refused(maker, "spot of size 0, " + what, x -> x.spot(0, 0.1, 0.1), BAD);
        Edges.refused(maker, "spot of size 7, " + what, x -> x.spot(7, 0.1, 0.1), BAD);
    }

    private static void refusals() {
        edge("5", "NO: FIRST 6 is LOST; refused ones leave the latest ray and SPOT", () -> no("u' is 0", x -> x.set(0, 0, 0, 0, 1)));
        edge("5", "NO: y0~ is LOST", () -> no("A is 0 at the STOP", x -> {
            x.stop(0, 1);
            x.set(0, 0, 1, 30, 1);
        }));
        edge("5", "NO: u0~ is LOST", () -> no("(A OBJECT) + B is 0 at the STOP", x -> {
            // with a curvature of 1/10 A is 1 - 60/30, B is 60 (2/3): OBJECT 40
            x.stop(0, 1);
            x.set(0, 0, 1, 60, 1);
            x.set(0, NONE, 4, 40, 1);
        }));
        edge("5", "NO: a CURVATURE is LOST", () -> no("of one without bending", x -> {
            // picked up between equal glasses; 0 times what is LOST is LOST, too
            x.set(0, 1, 0, Edges.TOLD - 1, 1);
            x.pick(0, 2, 0, 1, Edges.TOLD - 1, 1);
        }));
        edge("5", "NO: a GAP is LOST, also that of the last SURFACE", () -> no("the last one's", x -> {
            x.set(0, 0, 1, Edges.TOLD - 1, Edges.TOLD - 2);
            x.pick(0, 2, 1, 0, Edges.TOLD - 3, Edges.TOLD - 5);
            x.set(0, NONE, 6, 1, 1);
        }));
        edge("5", "NO: a CONIC is LOST", () -> no("the last one's", x -> {
            x.set(0, 0, 2, Edges.TOLD - 1, 1);
            x.pick(0, 2, 2, 0, Edges.TOLD - 1, 1);
        }));
        edge("5", "what else is LOST does not matter", () -> {
            House x = new House();
            x.lens(1);
            x.view(0, 0, 0);
            due("far away: no image", x.trace(0.0, 0.0, 0.0, 0.0), NO);
            x.set(0, NONE, 4, 5, 1);
            Edges.lost("FIRST 4", x, x.first(4));
            Edges.lost("FIRST 8", x, x.first(8));
            due("it passes", x.trace(0.5, 0.0, 0.0, 0.0), 0);
        });
    }

    // ---- NEAR

    /**
     * Flat SURFACES 0 and 1 (the STOP) with far gaps that end in one another, so that a ray of fx comes 2^61 times fx high
     * and straight on to SURFACE 2, while MARGINAL meets the axis there; behind it SURFACES that bend it far away.
     */
    private static Flown farFlown(int surfaces, double curvature) {
        Flown f = new Flown(surfaces);
        f.o = 1.0;
        f.field = (double) ((1L << 61) + 1);
        f.d = (double) (1L << 61);
        f.e = -1.0;
        f.t[0] = (double) (1L << 61);
        f.t[1] = (double) -((1L << 61) + 1);
        f.c[2] = curvature;
        f.k[2] = -1.0;
        for (int s = 3; s <= surfaces; s++) {
            f.index[s] = 2.0;
        }
        return f;
    }
    private static House farHouse(int surfaces, long above) {
        House x = new House();
        x.glass(1, 0, 2, 1);
        x.glass(2, 0, 4, 1);
        x.lens(surfaces);
        x.set(0, NONE, 4, 1, 1);
        x.set(0, NONE, 5, 1, 1);
        x.set(0, 0, 1, 1, 1);
        x.set(0, 1, 1, 1, 1);
        x.stop(0, 1);
        x.set(0, 2, 2, -1, 1);
        x.set(0, 2, 0, 1, 1);
        for (int s = 2; s < surfaces; s++) {
            x.behind(0, s, 1);
        }
        x.rewrite(2, (1L << 61) + 1, 1);
        x.rewrite(3, 1L << 61, 1);
        x.rewrite(4, -(1L << 61) - 1, 1);
        x.rewrite(7, above, 1L << 19);
        due("opening", x.open(), 6 + surfaces);
        x.view(0, 0, 0);
        return x;
    }
    /** SURFACE 3 throws the ray out further: a LENS of five, or of four to the plane. */
    private static Flown bentFlown(int surfaces, double curvature) {
        Flown f = farFlown(surfaces, curvature);
        f.c[3] = curvature < 0.0 ? 1.0 : -1.0;
        f.k[3] = -16.0;
        for (int s = 4; s <= surfaces; s++) {
            f.index[s] = 4.0;
        }
        return f;
    }
    private static House bentHouse(int surfaces, long above) {
        House x = farHouse(surfaces, above);
        x.set(0, 3, 0, above < 0 ? 1 : -1, 1);
        x.set(0, 3, 2, -16, 1);
        for (int s = 3; s < surfaces; s++) {
            x.behind(0, s, 2);
        }
        return x;
    }

    /** The greatest odd number between both, as a curvature's above, with which a check is still passed. */
    private static long last(LongFunction<Flown> make, String check, double fx, double fy, long inside, long outside) {
        long in = inside | 1;
        long out = outside | 1;
        while (Math.abs(out - in) > 2) {
            long mid = (in >> 1) + (out >> 1) | 1;
            if (make.apply(mid).fly(0.0, 0.0, fx, fy).why.equals(check)) {
                out = mid;
            } else {
                in = mid;
            }
        }
        return in;
    }
    private static void nearEdge(String check, boolean bent, int surfaces, double fx, double fy, long sign) {
        LongFunction<Flown> make = a -> bent ? bentFlown(surfaces, (double) a / (double) (1L << 19))
                : farFlown(surfaces, (double) a / (double) (1L << 19));
        long start = sign * 100000000000L * (1L << 19);
        long end = start * (check.startsWith("D") ? 20 : check.startsWith("x") || check.startsWith("y") ? 6 : 9);
        due("within", make.apply(start | 1).fly(0.0, 0.0, fx, fy).why.equals("PASSES") ? 1 : 0, 1);
        due("outside", make.apply(end | 1).fly(0.0, 0.0, fx, fy).why.equals(check) ? 1 : 0, 1);
        long in = last(make, check, fx, fy, start, end);
        long out = in + (sign < 0 ? -2 : 2);
        for (long a : new long[] {in, out}) {
            Flown f = make.apply(a).fly(0.0, 0.0, fx, fy);
            due(check + (a == in ? " is passed" : " is not"), f.why.equals(check) ? 1 : 0, a == in ? 0 : 1);
            House x = bent ? bentHouse(surfaces, a) : farHouse(surfaces, a);
            due(check + (a == in ? ", just within" : ", just outside"), x.trace(0.0, 0.0, fx, fy), f.answer);
            for (int s = 0; s <= surfaces; s++) {
                for (int what = 0; what < 7; what++) {
                    due("at " + s + " " + what, x.at(s, what), f.marks[s][what]);
                }
            }
        }
    }

    private static void far() {
        double fx = 524288.0;
        for (int way = 0; way < 4; way++) {
            double f = way % 2 == 0 ? fx : -fx;
            long sign = way < 2 ? 1 : -1;
            String turned = (way % 2 == 0 ? ", fx above 0" : ", fx below 0") + (way < 2 ? "" : ", turned about");
            edge("5", "D: MISSED unless NEAR" + turned, () -> nearEdge("D at 2", false, 3, f, 0.0, sign));
            edge("5", "T to a SURFACE: MISSED unless NEAR" + turned, () -> nearEdge("T at 3", false, 4, f, 0.0, sign));
            edge("5", "T to the plane: MISSED unless NEAR" + turned, () -> nearEdge("T at the plane", false, 3, f, 0.0, sign));
            edge("5", "x at a SURFACE: MISSED unless NEAR" + turned, () -> nearEdge("x at 4", true, 5, f, 0.0, sign));
            edge("5", "y at a SURFACE: MISSED unless NEAR" + turned, () -> nearEdge("y at 4", true, 5, 0.0, f, sign));
            edge("5", "x at the plane: MISSED there unless NEAR" + turned, () -> nearEdge("x at the plane", true, 4, f, 0.0, sign));
            edge("5", "y at the plane: MISSED there unless NEAR" + turned, () -> nearEdge("y at the plane", true, 4, 0.0, f, sign));
        }
    }

    // ---- MISSED, BLOCKED, TOTAL

    private static void missing() {
        edge("5", "MISSED unless R >= 0: just touched, and just not", () -> {
            House x = single();
            x.set(0, 0, 0, 1, 1);
            due("R is 0.0", x.trace(1.0, 0.0, 0.0, 0.0), 0);
            due("z", x.at(0, 2), 1.0);
            due("R is below 0", x.trace(Math.nextUp(1.0), 0.0, 0.0, 0.0), 1);
            due("z", x.at(0, 2), 0.0);
            due("in y", x.trace(0.0, -1.0, 0.0, 0.0), 0);
            due("in y, below 0", x.trace(0.0, -Math.nextUp(1.0), 0.0, 0.0), 1);
        });
        edge("5", "MISSED, if P + S is 0.0", () -> {
            // n 0.8, 1 + k n n = 0: S is P without its sign, and P is below 0 on the far side
            House x = single();
            x.set(0, 0, 0, 1, 1);
            x.set(0, 0, 2, -25, 16);
            x.set(0, NONE, 5, 3, 4);
            due("on the far side", x.trace(2.0, 0.0, 1.0, 0.0), 1);
            due("on the near side", x.trace(-2.0, 0.0, 1.0, 0.0) == 1 ? 1 : 0, 0);
        });
        edge("5", "MISSED where n is 0.0: at a SURFACE", () -> {
            for (int bits = 53; bits <= 54; bits++) {
                House x = steep(bits, 2);
                due("q is 2^" + bits, x.trace(0.0, 0.0, 0.0, 0.0), bits == 53 ? 0 : 4);
                due("n behind the first one", x.at(0, 5), bits == 53 ? 1.0 : 0.0);
                for (int what = 0; what < 7; what++) {
                    due("missed at the second one", bits == 53 || x.at(1, what) == 0.0 ? 1 : 0, 1);
                }
            }
        });
        edge("5", "MISSED where n is 0.0: at the plane", () -> {
            for (int bits = 53; bits <= 54; bits++) {
                House x = steep(bits, 1);
                due("q is 2^" + bits, x.trace(0.0, 0.0, 0.0, 0.0), bits == 53 ? 0 : 4);
                due("n behind the last one", x.at(0, 5), bits == 53 ? 1.0 : 0.0);
                due("n at the plane", x.at(1, 5), bits == 53 ? 1.0 : 0.0);
            }
        });
        edge("5", "BLOCKED, if x * x + y * y > h * h: at the rim it passes", () -> {
            House x = single();
            x.set(0, 0, 3, 5, 1);
            due("x at the rim", x.trace(5.0, 0.0, 0.0, 0.0), 0);
            due("x just outside", x.trace(Math.nextUp(5.0), 0.0, 0.0, 0.0), 2);
            due("y at the rim", x.trace(0.0, -5.0, 0.0, 0.0), 0);
            due("y just outside", x.trace(0.0, -Math.nextUp(5.0), 0.0, 0.0), 2);
            due("both at the rim", x.trace(3.0, 4.0, 0.0, 0.0), 0);
            due("both just outside", x.trace(3.0, Math.nextUp(4.0), 0.0, 0.0), 2);
        });
        edge("5", "BLOCKED only if HALF is not 0", () -> {
            House x = single();
            due("half 0", x.trace(5.0, 0.0, 0.0, 0.0), 0);
            x.set(0, 0, 3, 1, Edges.TOLD - 1);
            due("the least half", x.trace(5.0, 0.0, 0.0, 0.0), 2);
            due("its middle", x.trace(0.0, 0.0, 0.0, 0.0), 0);
            x.set(0, 0, 3, 0, 7);
            due("half 0 again", x.trace(5.0, 0.0, 0.0, 0.0), 0);
        });
        edge("5", "HALF as told, whatever else is worked", () -> {
            House x = single();
            x.set(0, 0, 3, Edges.TOLD - 1, 1);
            due("the greatest half", x.trace(5.0, 0.0, 0.0, 0.0), 0);
        });
        edge("5", "MISSED comes ahead of BLOCKED, BLOCKED ahead of TOTAL", () -> {
            House x = single();
            x.set(0, 0, 3, 1, 1);
            due("missed", x.trace(10.5, 0.0, 0.0, 0.0), 1);
            x.glass(1, 0, 1, 2);
            due("blocked", x.trace(6.0, 0.0, 0.0, 0.0), 2);
            x.set(0, 0, 3, 0, 1);
            due("total", x.trace(6.0, 0.0, 0.0, 0.0), 3);
        });
        edge("5", "TOTAL unless K >= 0: K is 0.0", () -> {
            // touched at a right angle: J is 0.0, so that K is 1 - q q
            for (int more = -1; more <= 1; more++) {
                House x = new House();
                x.lens(2);
                x.set(0, 0, 0, 1, 1);
                x.set(0, 1, 0, 1, 100);
                x.behind(0, 0, 1);
                x.behind(0, 1, 2);
                x.glass(1, 0, 1000000000L - more, 1000000000L);
                x.glass(2, 0, 2, 1);
                x.view(0, 0, 0);
                int got = x.trace(1.0, 0.0, 0.0, 0.0);
                due("q is 1 and " + more + " parts", got == 3 ? 1 : 0, more > 0 ? 1 : 0);
                due("x is told", x.at(0, 0), 1.0);
                // J is not below 0: G is not turned about, and goes along the normal, which is -1
                Edges.due("l", x.at(0, 3) < 0.0, more < 0);
            }
        });
        edge("5", "TOTAL unless K >= 0: the last slope that goes on", () -> {
            double in = 0.5;
            double out = 2.0;
            while (Math.nextUp(in) < out) {
                double mid = (in + out) / 2;
                if (slanted(mid).why.startsWith("TOTAL")) {
                    out = mid;
                } else {
                    in = mid;
                }
            }
            for (double f : new double[] {in, out, -in, -out}) {
                House x = new House();
                x.glass(0, 0, 3, 2);
                x.lens(2);
                x.behind(0, 0, 1);
                x.behind(0, 1, 2);
                x.glass(1, 0, 1, 1);
                x.glass(2, 0, 2, 1);
                x.set(0, 1, 0, 1, 1000000);
                x.set(0, NONE, 5, 1, 1);
                x.view(0, 0, 0);
                int got = x.trace(0.0, 0.0, f, 0.0);
                due("slope " + f, got == 3 ? 1 : 0, Math.abs(f) == out ? 1 : 0);
            }
        });
        edge("5", "S is turned about if n < 0, G if J < 0", () -> {
            // back from a flat MIRROR on to radius 10, whose middle lies on the other side
            House x = new House();
            x.glass(1, 0, 3, 2);
            x.lens(2);
            x.behind(0, 0, 8);
            x.set(0, 0, 1, -5, 1);
            x.set(0, 1, 0, 1, 10);
            x.behind(0, 1, 1);
            x.view(0, 0, 0);
            Flown f = new Flown(2);
            f.index = new double[] {1.0, 0.0, 1.5};
            f.t[0] = -5.0;
            f.c[1] = 1.0 / 10.0;
            f.v = 30.0;
            Edges.fraction("image", x, x.first(6), 30, 1);
            f.fly(0.5, 0.25, 0.0, 0.0);
            due("passes", x.trace(0.5, 0.25, 0.0, 0.0), f.answer);
            due("n turns", x.at(0, 5), -1.0);
            Edges.due("near the middle of the surface", x.at(1, 2) > 0.0 && x.at(1, 2) < 1.0, true);
            for (int s = 0; s < 3; s++) {
                for (int what = 0; what < 7; what++) {
                    due("at " + s + " " + what, x.at(s, what), f.marks[s][what]);
                }
            }
        });
        edge("5", "a MIRROR is never TOTAL", () -> {
            House x = new House();
            x.lens(1);
            x.behind(0, 0, 8);
            x.set(0, 0, 0, 1, 1);
            x.view(0, 0, 0);
            // touched at a right angle it goes straight on
            due("answer", x.trace(1.0, 0.0, 0.0, 0.0), 0);
            due("n", x.at(0, 5), 1.0);
        });
    }
    private static Flown slanted(double fx) {
        Flown f = new Flown(1);
        f.index[0] = 1.5;
        f.e = 1.0;
        f.v = 1.0;
        return f.fly(0.0, 0.0, fx, 0.0);
    }
    /** q is a power of two at SURFACE 0; 1.0 - q is -q in doubles from 2^54 on. */
    private static House steep(int bits, int surfaces) {
        House x = new House();
        x.glass(0, 0, 1L << 30, 1);
        x.glass(1, 0, 1, 1L << bits - 30);
        x.lens(surfaces);
        x.set(0, 0, 0, 1, 1L << 30);
        for (int s = 0; s < surfaces; s++) {
            x.behind(0, s, 1);
        }
        x.view(0, 0, 0);
        return x;
    }

    private static void answers() {
        edge("p34", "1 and 3 times the SURFACE and 0 MISSED, at each of ten", () -> {
            for (int s = 0; s < 10; s++) {
                House x = ten();
                x.set(0, s, 0, 1, 1);
                x.set(0, s, 2, 0, 1);
                due("missed at " + s, x.trace(5.0, 0.0, 0.0, 0.0), 1 + 3 * s);
                stops(x, s, false);
            }
        });
        edge("p34", "1 BLOCKED, at each of ten", () -> {
            for (int s = 0; s < 10; s++) {
                House x = ten();
                x.set(0, s, 3, 1, 2);
                due("blocked at " + s, x.trace(5.0, 0.0, 0.0, 0.0), 2 + 3 * s);
                stops(x, s, true);
            }
        });
        edge("p34", "2 TOTAL, at each of ten", () -> {
            for (int s = 0; s < 10; s++) {
                House x = ten();
                x.set(0, s, 0, 1, 6);
                for (int rest = s; rest < 10; rest++) {
                    x.behind(0, rest, 2);
                }
                due("total at " + s, x.trace(5.0, 0.0, 0.0, 0.0), 3 + 3 * s);
                stops(x, s, true);
            }
        });
        edge("p34", "0 it PASSES, through one SURFACE and through ten", () -> {
            due("one", single().trace(0.5, 0.5, 0.5, 0.5), 0);
            House x = ten();
            due("ten", x.trace(0.5, 0.5, 0.0, 0.0), 0);
            due("the plane is there", x.at(10, 5) == 0.0 ? 0 : 1, 1);
            due("z being 0.0 there", x.at(10, 2), 0.0);
        });
        edge("p34", "m: the plane", () -> {
            due("of one", steep(54, 1).trace(0.0, 0.0, 0.0, 0.0), 4);
            House x = new House();
            x.glass(1, 0, 1L << 30, 1);
            x.glass(2, 0, 1, 1L << 30);
            x.lens(10);
            for (int s = 0; s < 9; s++) {
                x.behind(0, s, 1);
            }
            x.behind(0, 9, 2);
            x.set(0, 9, 0, 1, 1L << 30);
            x.view(0, 0, 0);
            due("of ten", x.trace(0.0, 0.0, 0.0, 0.0), 31);
        });
    }
    /** Ten flat SURFACES in glass 0, an OBJECT 1000 away, rays of 1 per 1000 of slope; glass 2 is thin. */
    private static House ten() {
        House x = new House();
        x.glass(2, 0, 1, 2);
        x.lens(10);
        x.set(0, NONE, 4, 1000000, 1);
        x.view(0, 0, 0);
        return x;
    }
    /** The marks of a ray that ends at a SURFACE: all ahead of it, there x, y, z, path if it was met, none behind. */
    private static void stops(House x, int s, boolean met) {
        for (int i = 0; i <= 10; i++) {
            Edges.due("x at " + i, x.at(i, 0) != 0.0, i < s || i == s && met);
            Edges.due("n at " + i, x.at(i, 5) != 0.0, i < s);
            Edges.due("l at " + i, x.at(i, 3) != 0.0, i < s);
        }
    }

    private static void marksAsked() {
        edge("p35", "without a trace() all is 0.0", () -> {
            House x = new House();
            for (int s = -1; s <= 11; s++) {
                for (int what = -1; what <= 7; what++) {
                    due("at " + s + " " + what, x.at(s, what), 0.0);
                }
            }
        });
        edge("p35", "0 to 6, of SURFACES 0 to m - 1 and the plane m; 0.0 of others", () -> {
            House x = small();
            x.trace(250000.0, 500000.0, 750000.0, 125000.0);
            for (int s = 0; s <= 1; s++) {
                for (int what = 0; what < 7; what++) {
                    Edges.due("at " + s + " " + what, x.at(s, what) != 0.0, !(s == 1 && what == 2));
                }
                for (int what : new int[] {-1, 7, Integer.MIN_VALUE, Integer.MAX_VALUE}) {
                    due("at " + s + " " + what, x.at(s, what), 0.0);
                }
            }
            for (int s : new int[] {-1, 2, 3, 11, Integer.MIN_VALUE, Integer.MAX_VALUE}) {
                for (int what = 0; what < 7; what++) {
                    due("at " + s + " " + what, x.at(s, what), 0.0);
                }
            }
        });
        edge("p35", "the plane is 10 of a LENS of ten; 0.0 behind it", () -> {
            House x = ten();
            due("passes", x.trace(0.5, 0.25, 0.0, 0.0), 0);
            Edges.due("the plane", x.at(10, 5) != 0.0, true);
            for (int s : new int[] {-1, 11, 12, Integer.MAX_VALUE}) {
                for (int what = 0; what < 7; what++) {
                    due("at " + s + " " + what, x.at(s, what), 0.0);
                }
            }
        });
        edge("p35", "of the LENS as it was then", () -> {
            House x = ten();
            x.trace(0.5, 0.25, 0.0, 0.0);
            double[] before = marks(x, 10);
            x.lens(1);
            x.view(1, 0, 0);
            x.set(0, 0, 0, 1, 5);
            due("other lenses change nothing", Arrays.equals(before, marks(x, 10)) ? 1 : 0, 1);
            x.set(1, NONE, 4, 5, 1);
            due("a shorter one", x.trace(0.5, 0.25, 0.0, 0.0), 0);
            for (int s = 2; s <= 10; s++) {
                due("no surface " + s + " then", x.at(s, 0), 0.0);
            }
        });
        edge("p35", "0.0 where it was MISSED or did not come, also where one passed before", () -> {
            House x = single();
            due("passes", x.trace(6.0, 0.0, 0.0, 0.0), 0);
            due("missed", x.trace(10.5, 0.0, 0.0, 0.0), 1);
            for (double mark : marks(x, 1)) {
                due("mark", mark, 0.0);
            }
        });
        edge("p35", "l, m, n are 0.0 where it was BLOCKED, TOTAL; x, y, z, path are told", () -> {
            House x = single();
            x.set(0, 0, 3, 5, 1);
            for (int end = 2; end <= 3; end++) {
                due("ends", x.trace(3.0, 6.0, 0.0, 0.0), end);
                due("x", x.at(0, 0), 3.0);
                due("y", x.at(0, 1), 6.0);
                Edges.due("z", x.at(0, 2) > 0.0, true);
                Edges.due("path", x.at(0, 6) > 0.0, true);
                for (int what = 3; what < 6; what++) {
                    due("l, m, n", x.at(0, what), 0.0);
                }
                x.set(0, 0, 3, 0, 1);
                x.glass(1, 0, 1, 2);
            }
        });
        edge("p35", "each trace() begins anew: its path is its own", () -> {
            House x = single();
            x.trace(0.5, 0.25, 0.0, 0.0);
            double[] before = marks(x, 1);
            x.trace(0.0, 0.0, 0.0, 0.0);
            due("along the axis", x.at(1, 6), 45.0);
            x.trace(0.5, 0.25, 0.0, 0.0);
            due("the same again", Arrays.equals(before, marks(x, 1)) ? 1 : 0, 1);
        });
        edge("p35", "the latest trace() that was not refused; an open() lets it go", () -> {
            House x = single();
            x.trace(6.0, 0.0, 0.0, 0.0);
            x.set(0, 0, 0, 0, 1);
            due("refused", x.trace(1.0, 0.0, 0.0, 0.0), NO);
            due("stays", x.at(0, 0), 6.0);
            x.spot(1, 0.0, 0.0);
            due("a spot leaves it", x.at(0, 0), 6.0);
            x.open();
            due("goes", x.at(0, 0), 0.0);
        });
    }

    private static void spots() {
        edge("p36", "sizes 1 .. 6", () -> {
            int[] rays = {0, 5, 13, 29, 49, 81, 113};
            for (int g = 1; g <= 6; g++) {
                due("size " + g, small().spot(g, 0.0, 0.0), rays[g]);
            }
            for (int g : new int[] {0, -1, 7, Integer.MIN_VALUE, Integer.MAX_VALUE}) {
                Edges.refused(Houses.RICH, "size " + g, x -> x.spot(g, 0.0, 0.0), BAD);
            }
        });
        edge("5", "i i + j j is not above g g: the rays at the rim are in it", () -> {
            // 3 3 + 4 4 = 5 5; a HALF of a bit less than the rim lets the twelve of 5 out
            House x = single();
            x.set(0, 0, 3, 1, 1);
            due("all 81", x.spot(5, 0.0, 0.0), 81);
            x.set(0, 0, 3, 999, 1000);
            due("without the twelve at the rim", x.spot(5, 0.0, 0.0), 69);
        });
        edge("p36", "how many pass: none", () -> {
            House x = twoWithStopBehind();
            due("some", x.spot(2, 0.0, 0.0), 5);
            Edges.due("their sum", x.spread(2) != 0.0, true);
            due("none", x.spot(2, 1.0, 1.0), 0);
            for (int what = 0; what < 6; what++) {
                due("spread " + what, x.spread(what), 0.0);
            }
        });
        edge("p37", "without any: 0.0", () -> {
            House x = new House();
            for (int what = -1; what < 7; what++) {
                due("spread " + what, x.spread(what), 0.0);
            }
        });
        edge("p37", "0 to 5; 0.0 of others", () -> {
            House x = single();
            x.spot(3, 0.25, 0.5);
            for (int what = 0; what < 6; what++) {
                Edges.due("spread " + what, x.spread(what) != 0.0, true);
            }
            for (int what : new int[] {-1, 6, Integer.MIN_VALUE, Integer.MAX_VALUE}) {
                due("spread " + what, x.spread(what), 0.0);
            }
        });
        edge("p37", "the means where one alone passes", () -> {
            House x = twoWithStopBehind();
            x.set(0, 0, 3, 1, 5);
            due("one", x.spot(2, 0.0625, 0.03125), 1);
            Edges.due("off the axis", x.spread(0) != 0.0 && x.spread(1) != 0.0, true);
            due("mean x", x.spread(3), x.spread(0));
            due("mean y", x.spread(4), x.spread(1));
            due("ss", x.spread(2), x.spread(0) * x.spread(0) + x.spread(1) * x.spread(1));
            due("spread", x.spread(5), x.spread(2) - (x.spread(3) * x.spread(3) + x.spread(4) * x.spread(4)));
        });
        edge("p37", "the sums are of those that pass, in order", () -> {
            House x = single();
            due("all", x.spot(2, 0.25, 0.5), 13);
            House y = single();
            double sx = 0.0;
            double sy = 0.0;
            double ss = 0.0;
            for (int j = -2; j <= 2; j++) {
                for (int i = -2; i <= 2; i++) {
                    if (i * i + j * j <= 4) {
                        due("passes", y.trace((double) i / 2, (double) j / 2, 0.25, 0.5), 0);
                        sx = sx + y.at(1, 0);
                        sy = sy + y.at(1, 1);
                        ss = ss + (y.at(1, 0) * y.at(1, 0) + y.at(1, 1) * y.at(1, 1));
                    }
                }
            }
            due("sx", x.spread(0), sx);
            due("sy", x.spread(1), sy);
            due("ss", x.spread(2), ss);
        });
        edge("p37", "the means by those that pass, not by all", () -> {
            House x = twoWithStopBehind();
            due("some of 13", x.spot(2, 0.0625, 0.03125), 5);
            due("mean x", x.spread(3), x.spread(0) / 5);
            due("mean y", x.spread(4), x.spread(1) / 5);
            due("spread", x.spread(5), x.spread(2) / 5 - (x.spread(3) * x.spread(3) + x.spread(4) * x.spread(4)));
        });
        edge("p37", "the latest spot() that was not refused; an open() lets it go", () -> {
            House x = single();
            x.spot(2, 0.25, 0.5);
            double ss = x.spread(2);
            due("refused", x.spot(7, 0.0, 0.0), BAD);
            due("stays", x.spread(2), ss);
            x.set(0, 0, 0, 0, 1);
            due("refused", x.spot(1, 0.0, 0.0), NO);
            due("stays", x.spread(2), ss);
            x.trace(0.1, 0.1, 0.1, 0.1);
            due("a trace leaves it", x.spread(2), ss);
            x.open();
            for (int what = 0; what < 6; what++) {
                due("goes", x.spread(what), 0.0);
            }
        });
        edge("p36", "a SPOT leaves the latest trace()", () -> {
            House x = single();
            x.trace(0.5, 0.25, 0.0, 0.0);
            double[] before = marks(x, 1);
            x.spot(6, 0.5, 0.5);
            due("marks", Arrays.equals(before, marks(x, 1)) ? 1 : 0, 1);
        });
    }
    /** The STOP lies behind, so that a field shifts the rays at SURFACE 0, whose HALF is small. */
    private static House twoWithStopBehind() {
        House x = new House();
        x.glass(1, 0, 3, 2);
        x.lens(2);
        x.set(0, 0, 0, 1, 10);
        x.set(0, 0, 1, 3, 1);
        x.set(0, 0, 3, 3, 5);
        x.behind(0, 0, 1);
        x.stop(0, 1);
        x.set(0, NONE, 5, 1, 1);
        x.view(0, 0, 0);
        return x;
    }

    public static void main(String[] args) {
        arguments();
        starts();
        refusals();
        far();
        missing();
        answers();
        marksAsked();
        spots();
        Edges.end("5", "p34", "p35", "p36", "p37");
    }
}
