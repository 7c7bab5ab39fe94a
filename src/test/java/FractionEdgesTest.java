import java.math.BigInteger;
import java.util.LinkedHashMap;
import java.util.Map;

/** The edges of section 1, of THE TAPE and THE FRACTION, of GLASSES and FILMS: promises 1 to 8. */
public final class FractionEdgesTest {
    private static final int NONE = Edges.NONE, BAD = Edges.BAD, FULL = Edges.FULL;
    private static final long TOLD = Edges.TOLD, FAR = Edges.FAR;
    /** (2^31 - 1) (2^31 + 1) is 2^62 - 1, and 2^31 2^31 is 2^62. */
    private static final long UNDER = (1L << 31) - 1, HALFWAY = 1L << 31, OVER = (1L << 31) + 1;

    private static void edge(String place, String sentence, Runnable test) {
        Edges.edge(place, sentence, test);
    }

    // ---- one product, sum, quotient of two fractions of any size; each has a house that answers it

    interface Asked {
        int of(House x);
    }
    /** A curvature c / d picked up a / b times. */
    private static House productOf(long a, long b, long c, long d) {
        House x = new House();
        x.lens(2);
        x.set(0, 0, 0, 1, 1);
        x.pick(0, 1, 0, 0, 1, 1);
        x.rewrite(1, c, d);
        x.rewrite(2, a, b);
        opened(x, 3);
        return x;
    }
    private static final Asked PRODUCT = x -> x.worked(1, 0);
    /** y + (t u') with y = a / b and an angle of 1, or of -1 where a is below 0. */
    private static House sumOf(long a, long b, long c, long d) {
        House x = new House();
        x.lens(2);
        x.set(0, NONE, 6, 1, 1);
        x.set(0, NONE, 4, 1, 1);
        x.set(0, 0, 1, 1, 1);
        x.rewrite(1, a, b);
        x.rewrite(2, Math.abs(a), b);
        x.rewrite(3, a < 0 ? -c : c, d);
        opened(x, 4);
        return x;
    }
    private static final Asked SUM = x -> x.ray(1, 0);
    /** A GAP solved for the height a / b where the ray's is c / d and its angle 1: v - y. */
    private static House lessOf(long a, long b, long c, long d) {
        House x = new House();
        x.lens(2);
        x.set(0, NONE, 6, 1, 1);
        x.set(0, NONE, 4, 1, 1);
        x.solve(0, 0, 1, 1, 1);
        x.rewrite(1, c, d);
        x.rewrite(2, c, d);
        x.rewrite(3, a, b);
        opened(x, 4);
        return x;
    }
    private static final Asked LESS = x -> x.worked(0, 1);
    /** BEAM a / b, OBJECT c / d: the ray starts with the angle BEAM / OBJECT. */
    private static House quotientOf(long a, long b, long c, long d) {
        House x = new House();
        x.lens(1);
        x.set(0, NONE, 6, 1, 1);
        x.set(0, NONE, 4, 1, 1);
        x.rewrite(1, a, b);
        x.rewrite(2, c, d);
        opened(x, 3);
        return x;
    }
    private static final Asked QUOTIENT = x -> x.ray(0, 1);

    private static void opened(House x, int moves) {
        Edges.due("opening", x.open(), moves);
        x.view(0, 0, 0);
    }
    private static void is(String what, House x, Asked asked, long above, long below) {
        Edges.fraction(what, x, asked.of(x), above, below);
    }
    private static void isLost(String what, House x, Asked asked) {
        // another one first, so that 0 / 1 is no leftover
        x.told(0, 0);
        x.datum(0, NONE, 6);
        Edges.lost(what, x, asked.of(x));
    }

    private static void products() {
        edge("1", "PRODUCT: LOST, if above is 2^62 or more", () -> {
            is("2^62 - 1", productOf(UNDER, 1, OVER, 1), PRODUCT, FAR - 1, 1);
            isLost("2^62", productOf(HALFWAY, 1, HALFWAY, 1), PRODUCT);
        });
        edge("1", "PRODUCT: without sign", () -> {
            is("-(2^62 - 1)", productOf(-UNDER, 1, OVER, 1), PRODUCT, 1 - FAR, 1);
            is("-(2^62 - 1), the other one", productOf(UNDER, 1, -OVER, 1), PRODUCT, 1 - FAR, 1);
            isLost("-2^62", productOf(-HALFWAY, 1, HALFWAY, 1), PRODUCT);
            isLost("-2^62, the other one", productOf(HALFWAY, 1, -HALFWAY, 1), PRODUCT);
            is("both below 0", productOf(-UNDER, 1, -OVER, 1), PRODUCT, FAR - 1, 1);
            isLost("both below 0, 2^62", productOf(-HALFWAY, 1, -HALFWAY, 1), PRODUCT);
        });
        edge("1", "PRODUCT: LOST, if below is 2^62 or more", () -> {
            is("2^62 - 1", productOf(1, UNDER, 1, OVER), PRODUCT, 1, FAR - 1);
            isLost("2^62", productOf(1, HALFWAY, 1, HALFWAY), PRODUCT);
        });
        edge("1", "PRODUCT: far above 2^62, where a long would wrap", () -> {
            isLost("2^64", productOf(1L << 32, 1, 1L << 32, 1), PRODUCT);
            isLost("2^124", productOf(FAR - 1, 1, FAR - 1, 1), PRODUCT);
            isLost("2^65 + 1 below", productOf(1, (1L << 61) + 1, 1, 16), PRODUCT);
        });
        edge("1", "PRODUCT: both gcds go out first", () -> {
            is("a and d", productOf(FAR - 1, 1, 5, FAR - 1), PRODUCT, 5, 1);
            is("c and b", productOf(5, FAR - 1, FAR - 1, 1), PRODUCT, 5, 1);
            is("both", productOf(FAR - 1, FAR - 2, FAR - 2, FAR - 1), PRODUCT, 1, 1);
        });
        edge("1", "gcd of 0 and x is x", () -> {
            is("0 times", productOf(0, 1, 5, FAR - 1), PRODUCT, 0, 1);
            is("times 0", productOf(5, FAR - 1, 0, 1), PRODUCT, 0, 1);
            is("0 and 0", productOf(0, 1, 0, 1), PRODUCT, 0, 1);
            is("0 and a sum", sumOf(7, FAR - 2, 0, 1), SUM, 7, FAR - 2);
        });
        edge("1", "gcd: of numbers without their signs", () -> {
            is("a below 0", productOf(-6, 1, 1, 9), PRODUCT, -2, 3);
            is("c below 0", productOf(1, 9, -6, 1), PRODUCT, -2, 3);
            is("a sum below 0", sumOf(1, 6, -1, 2), SUM, -1, 3);
        });
    }

    /** b, c, d, and the sum of 1 / b and c / d, where b = p q, d = p r and all of the prime p goes out of the sum. */
    private static long[] cancelling(long q, long r) {
        BigInteger p = BigInteger.valueOf(UNDER);
        long c = BigInteger.valueOf(-r).multiply(BigInteger.valueOf(q).modInverse(p)).mod(p).longValueExact();
        // any c that is so modulo p will do: the first that shares nothing with r
        while (BigInteger.valueOf(c).gcd(BigInteger.valueOf(r)).longValueExact() != 1) {
            c += UNDER;
        }
        long above = (r + c * q) / UNDER;
        long g = BigInteger.valueOf(above).gcd(BigInteger.valueOf(q * r)).longValueExact();
        return new long[] {UNDER * q, c, UNDER * r, above / g, q * r / g};
    }

    private static void sums() {
        edge("1", "SUM: LOST, if x = a (d / g) is 2^62 or more", () -> {
            is("2^62 - 1", sumOf(OVER, 1, -1, UNDER), SUM, FAR - 2, UNDER);
            isLost("2^62, though x + y is less", sumOf(HALFWAY, 1, -1, HALFWAY), SUM);
            isLost("-2^62", sumOf(-HALFWAY, 1, 1, HALFWAY), SUM);
            is("-(2^62 - 1)", sumOf(-OVER, 1, 1, UNDER), SUM, 2 - FAR, UNDER);
        });
        edge("1", "SUM: LOST, if y = c (b / g) is 2^62 or more", () -> {
            is("-(2^62 - 1)", sumOf(1, UNDER, -OVER, 1), SUM, 2 - FAR, UNDER);
            isLost("-2^62, though x + y is less", sumOf(1, HALFWAY, -HALFWAY, 1), SUM);
            isLost("2^62", sumOf(-1, HALFWAY, HALFWAY, 1), SUM);
            is("2^62 - 1", sumOf(-1, UNDER, OVER, 1), SUM, FAR - 2, UNDER);
        });
        edge("1", "SUM: LOST, if x + y is 2^62 or more", () -> {
            is("2^62 - 1", sumOf(FAR / 2, 1, FAR / 2 - 1, 1), SUM, FAR - 1, 1);
            isLost("2^62", sumOf(FAR / 2, 1, FAR / 2, 1), SUM);
            isLost("2^63 - 2", sumOf(FAR - 1, 1, FAR - 1, 1), SUM);
            is("-(2^62 - 1)", sumOf(-FAR / 2, 1, 1 - FAR / 2, 1), SUM, 1 - FAR, 1);
            isLost("-2^62", sumOf(-FAR / 2, 1, -FAR / 2, 1), SUM);
            isLost("2 - 2^63", sumOf(1 - FAR, 1, 1 - FAR, 1), SUM);
        });
        edge("1", "SUM: LOST, if x + y is 2^62, though lowest terms would do", () -> {
            is("2^62 - 2 by 2", sumOf(FAR / 2 - 1, 2, FAR / 2 - 1, 2), SUM, FAR / 2 - 1, 1);
            isLost("2^62 by 2", sumOf(FAR / 2 + 1, 2, FAR / 2 - 1, 2), SUM);
            is("2 - 2^62 by 2", sumOf(1 - FAR / 2, 2, 1 - FAR / 2, 2), SUM, 1 - FAR / 2, 1);
            isLost("-2^62 by 2", sumOf(-FAR / 2 - 1, 2, 1 - FAR / 2, 2), SUM);
        });
        edge("1", "SUM: LOST, if m = b (d / g) is 2^62 or more", () -> {
            is("2^62 - 1", sumOf(1, UNDER, 1, OVER), SUM, 1L << 32, FAR - 1);
            isLost("2^62 + 2^32 - 3", sumOf(1, UNDER, 1, OVER + 2), SUM);
        });
        edge("1", "SUM: g goes out first, the lowest terms come last", () -> {
            is("one below", sumOf(4, FAR - 1, 1, FAR - 1), SUM, 5, FAR - 1);
            is("a gcd in common", sumOf(1, 1L << 60, 1, 1L << 61), SUM, 3, 1L << 61);
            long[] near = cancelling((1L << 15) + 1, (1L << 15) - 1);
            is("m below 2^61", sumOf(1, near[0], near[1], near[2]), SUM, near[3], near[4]);
            long[] far = cancelling((1L << 16) + 1, (1L << 16) - 1);
            isLost("m of 2^63, though lowest terms would do", sumOf(1, far[0], far[1], far[2]), SUM);
            is("to 0", sumOf(5, FAR - 1, -5, FAR - 1), SUM, 0, 1);
        });
        edge("1", "Less: the SUM with the other one turned about", () -> {
            is("-(2^62 - 1)", lessOf(-FAR / 2, 1, FAR / 2 - 1, 1), LESS, 1 - FAR, 1);
            isLost("-2^62", lessOf(-FAR / 2, 1, FAR / 2, 1), LESS);
            is("below 2^62 - 1", lessOf(1, UNDER, 1, OVER), LESS, 2, FAR - 1);
            is("to 0", lessOf(FAR - 1, 2, FAR - 1, 2), LESS, 0, 1);
        });
    }

    private static void quotients() {
        edge("1", "QUOTIENT: the PRODUCT with the other one turned", () -> {
            is("2^62 - 1 above", quotientOf(UNDER, 1, 1, OVER), QUOTIENT, FAR - 1, 1);
            isLost("2^62 above", quotientOf(HALFWAY, 1, 1, HALFWAY), QUOTIENT);
            is("2^62 - 1 below", quotientOf(1, UNDER, OVER, 1), QUOTIENT, 1, FAR - 1);
            isLost("2^62 below", quotientOf(1, HALFWAY, HALFWAY, 1), QUOTIENT);
            is("both gcds", quotientOf(FAR - 1, FAR - 2, FAR - 1, FAR - 2), QUOTIENT, 1, 1);
            is("0 by x", quotientOf(0, 1, 7, 3), QUOTIENT, 0, 1);
        });
        edge("1", "QUOTIENT: its sign above", () -> {
            House x = new House();
            x.glass(1, 0, 2, 1);
            x.lens(1);
            x.behind(0, 0, 1);
            x.view(0, 0, 0);
            x.set(0, 0, 0, 2, 3);
            is("C is -1/3", x, h -> h.first(2), -1, 3);
            is("-1 / C", x, h -> h.first(4), 3, 1);
            is("-(A / C)", x, h -> h.first(5), 3, 1);
            x.set(0, 0, 0, -2, 3);
            is("C is 1/3", x, h -> h.first(2), 1, 3);
            is("-1 / C", x, h -> h.first(4), -3, 1);
        });
        edge("1", "- in front alone turns the sign, and nothing else", () -> {
            House x = new House();
            x.glass(0, 0, 3, 2);
            x.lens(2);
            x.behind(0, 0, 8);
            x.set(0, NONE, 4, 1, 1);
            x.set(0, 0, 1, 5, 7);
            x.view(0, 0, 0);
            // N is 3/2, N' -3/2: u' = -1, y = 1 - 5/7
            is("u' behind a MIRROR", x, h -> h.ray(0, 2), -1, 1);
            is("y at the next one", x, h -> h.ray(1, 0), 2, 7);
            House y = new House();
            y.lens(2);
            y.set(0, NONE, 4, 1, 1);
            y.set(0, 0, 1, 5, 7);
            y.view(0, 0, 0);
            // 12/7 at SURFACE 1, back to 17/7 at SURFACE 0, 22/7 at SURFACE 1 again
            is("a GHOST's way back", y, h -> h.ghost(0, 1, 0), -22, 7);
        });
        edge("1", "QUOTIENT: by 0: LOST", () -> {
            House x = new House();
            x.lens(1);
            x.view(0, 0, 0);
            is("C is 0", x, h -> h.first(2), 0, 1);
            isLost("-1 / C", x, h -> h.first(4));
            isLost("-(A / C)", x, h -> h.first(5));
            x.set(0, NONE, 6, 0, 1);
            isLost("0 by 0", x, h -> h.first(6));
        });
        edge("1", "what comes of a LOST is", () -> {
            House x = new House();
            x.lens(3);
            x.view(0, 0, 0);
            x.set(0, 0, 0, TOLD - 1, 1);
            x.pick(0, 1, 0, 0, TOLD - 1, 1);
            isLost("2^80", x, h -> h.worked(1, 0));
            x.pick(0, 2, 0, 1, 1, 1);
            isLost("1 times it", x, h -> h.worked(2, 0));
            x.pick(0, 2, 0, 1, 0, 1);
            isLost("0 times it", x, h -> h.worked(2, 0));
            isLost("a ray bent by it", x, h -> h.ray(1, 2));
            isLost("a sum with it", x, h -> h.first(12));
            isLost("turned about", x, h -> h.first(4));
            isLost("the sum of a term", x, h -> h.term(NONE, 3));
            is("what does not hang on it", x, h -> h.ray(1, 1), 0, 1);
        });
    }

    // ---- fractions that a call tells

    interface Teller {
        long tell(House x, long above, long below);
    }
    /** Each call that a fraction is told by; those of the second row must be above 0, of the third not below. */
    private static Map<String, Teller> anySign() {
        Map<String, Teller> out = new LinkedHashMap<>();
        out.put("set curvature", (x, a, b) -> x.set(0, 0, 0, a, b));
        out.put("set gap", (x, a, b) -> x.set(0, 0, 1, a, b));
        out.put("set conic", (x, a, b) -> x.set(0, 0, 2, a, b));
        out.put("set field", (x, a, b) -> x.set(0, NONE, 5, a, b));
        out.put("set beam", (x, a, b) -> x.set(0, NONE, 6, a, b));
        out.put("pick", (x, a, b) -> x.pick(0, 1, 0, 0, a, b));
        out.put("solve", (x, a, b) -> x.solve(0, 1, 1, a, b));
        out.put("zoom", (x, a, b) -> x.zoom(0, 0, 1, a, b));
        out.put("beam, x", (x, a, b) -> x.beam(a, b, 1, 1, 0));
        out.put("draws", (x, a, b) -> x.draws(1, 1, 3, a, b));
        return out;
    }
    private static Map<String, Teller> aboveZero() {
        Map<String, Teller> out = new LinkedHashMap<>();
        out.put("glass", (x, a, b) -> x.glass(1, 0, a, b));
        out.put("layer", (x, a, b) -> x.layer(0, 1, a, b));
        out.put("beam, z", (x, a, b) -> x.beam(1, 1, a, b, 0));
        out.put("vary", (x, a, b) -> x.vary(0, 0, a, b));
        out.put("tolerance", (x, a, b) -> x.tolerance(0, 0, a, b));
        return out;
    }
    private static Map<String, Teller> zeroAndMore() {
        Map<String, Teller> out = new LinkedHashMap<>();
        out.put("set half", (x, a, b) -> x.set(0, 0, 3, a, b));
        out.put("set object", (x, a, b) -> x.set(0, NONE, 4, a, b));
        return out;
    }

    private static void taken(String what, Teller teller, long above, long below) {
        Edges.due(what + " " + above + " / " + below + " is taken", teller.tell(Houses.RICH.house(), above, below) >= 0, true);
    }
    private static void refused(String what, Teller teller, long above, long below) {
        Edges.refused(Houses.RICH, what + " " + above + " / " + below, x -> teller.tell(x, above, below), BAD);
    }

    private static void toldFractions() {
        Map<String, Teller> all = new LinkedHashMap<>(anySign());
        all.putAll(aboveZero());
        all.putAll(zeroAndMore());
        all.forEach((what, teller) -> {
            edge("1", what + ": BAD, if below is not above 0", () -> {
                taken(what, teller, 3, 1);
                refused(what, teller, 3, 0);
                refused(what, teller, 3, -1);
                refused(what, teller, -3, -1);
                refused(what, teller, 0, 0);
                refused(what, teller, 3, Long.MIN_VALUE);
            });
            edge("1", what + ": BAD, if above is not nearer to 0 than 2^40", () -> {
                taken(what, teller, TOLD - 1, 1);
                refused(what, teller, TOLD, 1);
                refused(what, teller, FAR, 1);
                refused(what, teller, Long.MAX_VALUE, 1);
                refused(what, teller, Long.MIN_VALUE, 1);
            });
            edge("1", what + ": BAD, if below is not nearer to 0 than 2^40", () -> {
                taken(what, teller, 1, TOLD - 1);
                refused(what, teller, 1, TOLD);
                refused(what, teller, 1, Long.MAX_VALUE);
            });
            edge("1", what + ": as they are told, then in lowest terms", () -> {
                taken(what, teller, TOLD - 1, TOLD - 1);
                refused(what, teller, TOLD, TOLD);
                refused(what, teller, TOLD, 2);
                refused(what, teller, 2, TOLD);
            });
        });
        anySign().forEach((what, teller) -> edge("1", what + ": below 0, too, up to 2^40", () -> {
            taken(what, teller, 0, 1);
            taken(what, teller, -1, 1);
            taken(what, teller, 1 - TOLD, 1);
            refused(what, teller, -TOLD, 1);
            refused(what, teller, -TOLD, TOLD);
        }));
        aboveZero().forEach((what, teller) -> edge("1", what + ": above 0 alone", () -> {
            taken(what, teller, 1, TOLD - 1);
            refused(what, teller, 0, 1);
            refused(what, teller, -1, 1);
            refused(what, teller, -1, TOLD - 1);
            refused(what, teller, 1 - TOLD, 1);
        }));
        zeroAndMore().forEach((what, teller) -> edge("1", what + ": 0 and more", () -> {
            taken(what, teller, 0, 1);
            taken(what, teller, 0, TOLD - 1);
            refused(what, teller, -1, 1);
            refused(what, teller, -1, TOLD - 1);
            refused(what, teller, 1 - TOLD, 1);
        }));
        edge("1", "then it is put in lowest terms", () -> {
            House x = new House();
            x.lens(1);
            x.set(0, 0, 0, TOLD - 2, TOLD - 1);
            is("nothing in common", x, h -> h.datum(0, 0, 0), TOLD - 2, TOLD - 1);
            x.set(0, 0, 0, TOLD - 1, TOLD - 1);
            is("all", x, h -> h.datum(0, 0, 0), 1, 1);
            x.set(0, 0, 0, -12, 18);
            is("below 0", x, h -> h.datum(0, 0, 0), -2, 3);
            x.set(0, 0, 0, 0, TOLD - 1);
            is("0", x, h -> h.datum(0, 0, 0), 0, 1);
        });
    }

    private static void comparing() {
        edge("1", "fractions are compared exactly: a merit's < and >", () -> {
            // v is 1 and 1 / (2^62 - 2): one part in 2^62 above; its square is LOST, so that the ROW is seen to count
            House x = new House();
            x.lens(1);
            x.set(0, 0, 1, 1, 1);
            x.rewrite(1, FAR - 1, FAR - 2);
            opened(x, 2);
            x.merit(0, "gap 0 < 1");
            isLost("just above", x, h -> h.value(0));
            x.merit(0, "gap 0 > 1");
            is("not below", x, h -> h.value(0), 0, 1);
            x.rewrite(1, FAR - 2, FAR - 1);
            opened(x, 2);
            x.merit(0, "gap 0 < 1");
            is("not above", x, h -> h.value(0), 0, 1);
            x.merit(0, "gap 0 > 1");
            isLost("just below", x, h -> h.value(0));
            x.rewrite(1, 2 - FAR, FAR - 1);
            opened(x, 2);
            x.merit(0, "gap 0 < -1");
            isLost("just above -1", x, h -> h.value(0));
            x.rewrite(1, 1 - FAR, FAR - 2);
            opened(x, 2);
            x.merit(0, "gap 0 < -1");
            is("just below -1", x, h -> h.value(0), 0, 1);
        });
        edge("1", "fractions are compared exactly: stable()", () -> {
            // A is 1, D is N0 / M: 1 and (2^40 - 2) / (2^40 - 1) is below 2 by less than a float would hold
            House x = new House();
            x.lens(1);
            x.behind(0, 0, 1);
            x.view(0, 0, 0);
            x.glass(0, 0, TOLD - 2, TOLD - 1);
            Edges.due("just below 2", x.stable(), 1);
            x.glass(0, 0, 1, 1);
            Edges.due("2", x.stable(), 0);
            x.glass(0, 0, TOLD - 1, TOLD - 2);
            Edges.due("just above 2", x.stable(), 0);
        });
        edge("1", "as a DOUBLE: (double) above / (double) below", () -> {
            // the path of a ray along the axis is the GAP and what is behind; both are rounded before they divide
            House x = new House();
            x.glass(1, 0, 3, 2);
            x.lens(2);
            x.set(0, 0, 0, 1, 10);
            x.set(0, 0, 1, 1, 1);
            x.behind(0, 0, 1);
            long above = (1L << 54) + 3, below = (1L << 53) + 1;
            x.rewrite(2, above, below);
            opened(x, 4);
            x.set(0, NONE, 6, 0, 1);
            x.set(0, NONE, 6, 1, 1);
            Edges.due("passes", x.trace(0.0, 0.0, 0.0, 0.0), 0);
            double t = (double) above / (double) below;
            Edges.due("path", x.at(1, 6), 0.0 + 1.0 * (-0.0 + 0.0) + 1.5 * (t + 0.0));
        });
    }

    private static void theFraction() {
        edge("p1", "a new object: no LENSES, no VIEW, THE FRACTION 0 / 1", () -> {
            House x = new House();
            Edges.due("above", x.above(), 0);
            Edges.due("below", x.below(), 1);
            for (int what = 0; what < 9; what++) {
                Edges.due("count " + what, x.count(what), what == 6 ? NONE : 0);
            }
        });
        edge("p1", "FILMS without LAYERS, MERITS without ROWS", () -> {
            House x = new House();
            x.lens(1);
            x.view(0, 0, 0);
            for (int i = 0; i < 4; i++) {
                Edges.due("film " + i, x.film(i), 0);
                int k = i;
                is("merit " + i, x, h -> h.value(k), 0, 1);
            }
        });
        edge("p1", "one object's calls change no other one", () -> {
            House other = new House();
            Houses.RICH.house();
            Edges.due("moves", other.count(1), 0);
            Edges.due("glass", other.lens(1) + other.behind(0, 0, 1) + other.view(0, 0, 0), 2);
            is("glass 1 is 1", other, h -> h.share(0), 0, 1);
        });
        edge("p4", "THE FRACTION is that of the latest call that answers whether one is there", () -> {
            House x = Houses.RICH.house();
            is("datum", x, h -> h.datum(0, 0, 0), 1, 10);
            x.told(0, 0);
            x.how(0, 0, 0);
            x.move(0, 0);
            x.count(0);
            x.glass(7, 0, 9, 8);
            x.set(0, 0, 2, 5, 6);
            x.stable();
            x.trace(0.0, 0.0, 0.0, 0.0);
            x.spot(1, 0.0, 0.0);
            x.rounds(1, 1);
            x.draws(3, 1, 0, 1, 1);
            x.view(0, 0, 0);
            x.same(0, 1);
            x.alter(0, 0);
            x.open();
            Edges.due("above stays", x.above(), 1);
            Edges.due("below stays", x.below(), 10);
        });
        edge("p5", "LOST: it is 0 / 1 then", () -> {
            House x = Houses.RICH.house();
            x.set(0, NONE, 4, 0, 1);
            x.datum(0, 0, 0);
            Edges.lost("mag of what is far away", x, x.first(7));
        });
        edge("p4", "a refused call leaves THE FRACTION", () -> {
            House x = Houses.RICH.house();
            x.datum(0, 0, 0);
            Edges.due("refused", x.first(13) + x.datum(9, 0, 0) + x.worked(4, 0) + x.value(4), 4 * BAD);
            Edges.due("above", x.above(), 1);
            Edges.due("below", x.below(), 10);
        });
    }

    private static void tape() {
        edge("p2", "FULL: above 400 bytes", () -> {
            House x = new House();
            for (int i = 1; i <= 20; i++) {
                Edges.due("feed " + i, x.feed(i, i, i, i, i), 20 * i);
            }
            Edges.due("a byte more", x.feed(0, 0, 0, 0, 0), FULL);
            Edges.due("it stays", x.count(5), 400);
        });
        Maker full = new Maker(() -> {
            House x = new House();
            x.type("gap 0 = 1" + " ".repeat(391));
            return x;
        });
        Maker almost = new Maker(() -> {
            House x = new House();
            x.type("gap 0 = 1" + " ".repeat(372));
            return x;
        });
        edge("p2", "what is refused changes nothing", () -> {
            Edges.refused(full, "feed at 400", x -> x.feed(-1, -1, -1, -1, -1), FULL);
            Edges.refused(almost, "feed at 381", x -> x.feed(-1, -1, -1, -1, -1), FULL);
            House x = almost.house();
            Edges.due("cut", x.cut(380), 1);
            Edges.due("feed at 380", x.feed(0x20202020, 0x20202020, 0x20202020, 0x20202020, 0x20202020), 400);
            Edges.due("the text", x.merit(0), 1);
        });
        edge("p2", "of each number the highest byte first", () -> {
            House x = new House();
            // "gap 0=1 " and blanks, with a byte that is none at the very end
            Edges.due("feed", x.feed(0x67617020, 0x303d3120, 0x20202020, 0x20202020, 0x20200a3f), 20);
            Edges.due("wrong at byte 19", x.merit(0), -10 - 19);
        });
        edge("p2", "bytes above 127 are no TOKENS, in every place of a number", () -> {
            for (int place = 0; place < 4; place++) {
                House x = new House();
                x.feed(0x20202020 & ~(0xff << 24 - 8 * place) | 0x80 << 24 - 8 * place, 0, 0, 0, 0);
                Edges.due("byte " + place, x.merit(0), -10 - place);
            }
        });
        edge("p3", "the first n bytes stay: n 0 up to all that there are", () -> {
            House x = new House();
            x.type("gap 0 = 1");
            Edges.due("all", x.cut(9), 0);
            Edges.due("one goes", x.cut(8), 1);
            Edges.due("count", x.count(5), 8);
            Edges.due("all go", x.cut(0), 8);
            Edges.due("none", x.cut(0), 0);
            Edges.due("count", x.count(5), 0);
        });
        edge("p3", "cut: BAD", () -> {
            Edges.refused(Houses.RICH, "10 of 9", x -> x.cut(10), BAD);
            Edges.refused(Houses.RICH, "-1 of 9", x -> x.cut(-1), BAD);
            Edges.refused(Houses.RICH, "the least", x -> x.cut(Integer.MIN_VALUE), BAD);
            Edges.refused(Houses.RICH, "the most", x -> x.cut(Integer.MAX_VALUE), BAD);
            Edges.refused(Houses.BLANK, "1 of none", x -> x.cut(1), BAD);
            Edges.refused(full, "401 of 400", x -> x.cut(401), BAD);
        });
        edge("p3", "the first ones stay, not the last ones", () -> {
            House x = new House();
            x.type("gap 0 = 1;?");
            x.cut(9);
            Edges.due("merit", x.merit(0), 1);
        });
    }

    private static void goods() {
        edge("p6", "GLASSES 0 .. 7", () -> {
            for (int g = 0; g < 8; g++) {
                House x = new House();
                Edges.due("glass " + g, x.glass(g, 0, 3, 2), 1);
            }
            for (int g : new int[] {-1, 8, Integer.MIN_VALUE, Integer.MAX_VALUE}) {
                Edges.refused(Houses.RICH, "glass " + g, x -> x.glass(g, 0, 3, 2), BAD);
            }
        });
        edge("p6", "WAVES 0, 1, 2", () -> {
            for (int w = 0; w < 3; w++) {
                House x = new House();
                x.lens(1);
                x.behind(0, 0, 7);
                x.set(0, NONE, 4, 1, 1);
                Edges.due("wave " + w, x.glass(7, w, 2, 1), 1);
                for (int seen = 0; seen < 3; seen++) {
                    x.view(0, 0, seen);
                    is("u' by wave " + seen, x, h -> h.ray(0, 2), 1, seen == w ? 2 : 1);
                }
            }
            for (int w : new int[] {-1, 3, Integer.MIN_VALUE, Integer.MAX_VALUE}) {
                Edges.refused(Houses.RICH, "wave " + w, x -> x.glass(1, w, 3, 2), BAD);
            }
        });
        edge("p6", "an index 1 at first, for each GLASS and WAVE", () -> {
            for (int w = 0; w < 3; w++) {
                House x = new House();
                x.lens(8);
                x.set(0, NONE, 4, 1, 1);
                for (int g = 0; g < 8; g++) {
                    x.behind(0, g, g);
                }
                x.view(0, 0, w);
                for (int g = 0; g < 8; g++) {
                    int s = g;
                    is("glass " + g + " by wave " + w, x, h -> h.ray(s, 2), 1, 1);
                }
            }
        });
        edge("p6", "the least and the greatest index", () -> {
            House x = new House();
            x.lens(1);
            x.behind(0, 0, 1);
            x.set(0, NONE, 4, 1, 1);
            x.view(0, 0, 0);
            Edges.due("least", x.glass(1, 0, 1, TOLD - 1), 1);
            is("u'", x, h -> h.ray(0, 2), TOLD - 1, 1);
            Edges.due("greatest", x.glass(1, 0, TOLD - 1, 1), 1);
            is("u'", x, h -> h.ray(0, 2), 1, TOLD - 1);
        });
        edge("p7", "FILMS 0 .. 3", () -> {
            House x = new House();
            for (int f = 0; f < 4; f++) {
                Edges.due("layer", x.layer(f, 1, 2, 1), 1);
                Edges.due("film " + f, x.film(f), 1);
                Edges.due("film " + f + " has none then", x.film(f), 0);
            }
            for (int f : new int[] {-1, 4, Integer.MIN_VALUE, Integer.MAX_VALUE}) {
                Edges.refused(Houses.RICH, "film " + f, h -> h.film(f), BAD);
            }
        });
        edge("p7", "how many it had: 0 up to 8, and there is room again", () -> {
            for (int n = 0; n <= 8; n++) {
                House x = new House();
                for (int i = 0; i < n; i++) {
                    x.layer(3, 1, 2, 1);
                }
                Edges.due(n + " layers", x.film(3), n);
                Edges.due("the first one again", x.layer(3, 1, 2, 1), 1);
            }
        });
        edge("p8", "up to 8 LAYERS: FULL", () -> {
            House x = new House();
            for (int i = 1; i <= 8; i++) {
                Edges.due("layer", x.layer(1, 1, 2, 1), i);
            }
            Edges.due("a ninth", x.layer(1, 1, 2, 1), FULL);
            Edges.due("another film has room", x.layer(2, 1, 2, 1), 1);
            Edges.refused(Houses.RICH, "a ninth", h -> h.layer(2, 1, 2, 1), FULL);
        });
        edge("p8", "quarters 0 .. 7", () -> {
            House x = new House();
            for (int q = 0; q < 8; q++) {
                Edges.due("quarters " + q, x.layer(0, q, 2, 1), q + 1);
            }
            for (int q : new int[] {-1, 8, Integer.MIN_VALUE, Integer.MAX_VALUE}) {
                Edges.refused(Houses.RICH, "quarters " + q, h -> h.layer(0, q, 2, 1), BAD);
            }
        });
        edge("p8", "FILMS 0 .. 3", () -> {
            for (int f : new int[] {-1, 4, Integer.MIN_VALUE, Integer.MAX_VALUE}) {
                Edges.refused(Houses.RICH, "film " + f, h -> h.layer(f, 1, 2, 1), BAD);
            }
        });
        edge("p8", "BAD comes ahead of FULL", () -> {
            Edges.refused(Houses.RICH, "quarters", h -> h.layer(2, 8, 2, 1), BAD);
            Edges.refused(Houses.RICH, "index", h -> h.layer(2, 1, 0, 1), BAD);
            Edges.refused(Houses.RICH, "below", h -> h.layer(2, 1, 1, 0), BAD);
        });
    }

    public static void main(String[] args) {
        products();
        sums();
        quotients();
        toldFractions();
        comparing();
        theFraction();
        tape();
        goods();
        Edges.end("1", "p1", "p2", "p3", "p4", "p5", "p6", "p7", "p8");
    }
}
