import java.util.TreeSet;

/** What the tests of edges share: each edge is a test of its own, named by where the document says it. */
final class Edges {
    static final int NONE = -1, BAD = -2, NO = -3, FULL = -4;
    /** Fractions that are told by a call are nearer to 0 than this. */
    static final long TOLD = 1L << 40;
    /** All fractions are nearer to 0 than this. */
    static final long FAR = 1L << 62;

    private static final TreeSet<String> places = new TreeSet<>();
    private static String now = "";
    private static int edges = 0;
    private static int asked = 0;
    private static int wrong = 0;

    private Edges() {
    }

    interface Call {
        long of(House x);
    }

    /** One sentence's edge; "1" is a section of the terms, "p1" a promise. */
    static void edge(String place, String sentence, Runnable test) {
        places.add(place);
        now = place + ": " + sentence;
        edges++;
        try {
            test.run();
        } catch (RuntimeException thrown) {
            tell("threw " + thrown);
        }
    }
    private static void tell(String what) {
        wrong++;
        System.out.println(now + ": " + what);
    }

    static void due(String what, long got, long want) {
        asked++;
        if (got != want) {
            tell(what + " answered " + got + ", due is " + want);
        }
    }
    static void due(String what, double got, double want) {
        asked++;
        if (got != want) {
            tell(what + " answered " + got + ", due is " + want);
        }
    }
    static void due(String what, boolean got, boolean want) {
        due(what, got ? 1 : 0, want ? 1 : 0);
    }
    static void fraction(String what, House x, int answered, long above, long below) {
        due(what, answered, 1);
        due(what + ", above", x.above(), above);
        due(what + ", below", x.below(), below);
    }
    static void lost(String what, House x, int answered) {
        due(what, answered, 0);
        due(what + ", above", x.above(), 0);
        due(what + ", below", x.below(), 1);
    }

    /** A refused call answers so, and nothing that can be asked for has changed behind it. */
    static void refused(Maker maker, String what, Call call, long want) {
        asked++;
        String found = maker.changedBy(call, want);
        if (!found.isEmpty()) {
            tell(what + " " + found);
        }
    }

    /** How a test ends: it fails if an answer was wrong, or a place that it must look at has no edge. */
    static void end(String... must) {
        for (String place : must) {
            if (!places.contains(place)) {
                wrong++;
                System.out.println("no edge of " + place);
            }
        }
        System.out.println(edges + " edges, " + asked + " answers asked for, " + wrong + " wrong");
        System.exit(wrong > 0 ? 1 : 0);
    }
}
