/**
 * An OpticalHouse for tests: it counts its calls, since the document promises nothing behind the 512th, and can write
 * texts on THE TAPE and other MOVES on THE DISK.
 */
final class House {
    static final int MOST_CALLS = 512;
    static final int NOTHING = 255;

    private final OpticalHouse x = new OpticalHouse();
    private int calls = 0;

    int left() {
        return MOST_CALLS - calls;
    }
    private void used() {
        calls++;
        if (calls > MOST_CALLS) {
            throw new IllegalStateException("a test asks more of one object than the document promises");
        }
    }

    /** A text comes behind THE TAPE. */
    void type(String text) {
        int had = count(5);
        for (int at = 0; at < text.length(); at += 20) {
            int[] n = new int[5];
            for (int i = 0; i < 20; i++) {
                n[i / 4] = n[i / 4] << 8 | (at + i < text.length() ? text.charAt(at + i) : 0);
            }
            feed(n[0], n[1], n[2], n[3], n[4]);
        }
        cut(had + text.length());
    }
    int merit(int k, String text) {
        type(text);
        return merit(k);
    }

    /** The 23 bytes of a MOVE; NOTHING is 255. */
    static int[] bytes(int kind, int lens, int surface, int what, int ahead, long above, long below) {
        int[] out = new int[23];
        out[0] = kind;
        out[1] = lens;
        out[2] = surface;
        out[3] = what;
        out[4] = ahead;
        for (int i = 0; i < 8; i++) {
            out[5 + i] = (int) (above >>> 56 - 8 * i & 255);
            out[13 + i] = (int) (below >>> 56 - 8 * i & 255);
        }
        int sum = 0;
        for (int i = 0; i < 21; i++) {
            sum = (31 * sum + out[i]) % 65536;
        }
        out[21] = sum / 256;
        out[22] = sum % 256;
        return out;
    }
    /** Other bytes over a MOVE on THE DISK; they count behind an open(). */
    void write(int move, int... bytes) {
        for (int i = 0; i < bytes.length; i++) {
            int turned = disk(move * 23 + i) ^ bytes[i];
            if (turned != 0) {
                alter(move * 23 + i, turned);
            }
        }
    }
    /** Another fraction, of any size, for a MOVE on THE DISK. */
    void rewrite(int move, long above, long below) {
        int at = move * 23;
        write(move, bytes(disk(at), disk(at + 1), disk(at + 2), disk(at + 3), disk(at + 4), above, below));
    }

    // ---- the face

    int feed(int a, int b, int c, int d, int e) {
        used();
        return x.feed(a, b, c, d, e);
    }
    int cut(int n) {
        used();
        return x.cut(n);
    }
    long above() {
        used();
        return x.above();
    }
    long below() {
        used();
        return x.below();
    }
    int glass(int glass, int wave, long above, long below) {
        used();
        return x.glass(glass, wave, above, below);
    }
    int film(int film) {
        used();
        return x.film(film);
    }
    int layer(int film, int quarters, long above, long below) {
        used();
        return x.layer(film, quarters, above, below);
    }
    int lens(int surfaces) {
        used();
        return x.lens(surfaces);
    }
    int set(int lens, int surface, int sort, long above, long below) {
        used();
        return x.set(lens, surface, sort, above, below);
    }
    int behind(int lens, int surface, int what) {
        used();
        return x.behind(lens, surface, what);
    }
    int stop(int lens, int surface) {
        used();
        return x.stop(lens, surface);
    }
    int pick(int lens, int surface, int sort, int from, long above, long below) {
        used();
        return x.pick(lens, surface, sort, from, above, below);
    }
    int solve(int lens, int surface, int sort, long above, long below) {
        used();
        return x.solve(lens, surface, sort, above, below);
    }
    int zoom(int lens, int surface, int state, long above, long below) {
        used();
        return x.zoom(lens, surface, state, above, below);
    }
    int coat(int lens, int surface, int film) {
        used();
        return x.coat(lens, surface, film);
    }
    int undo(int lens) {
        used();
        return x.undo(lens);
    }
    int branch(int move) {
        used();
        return x.branch(move);
    }
    int merge(int first, int second) {
        used();
        return x.merge(first, second);
    }
    boolean same(int a, int b) {
        used();
        return x.same(a, b);
    }
    int told(int lens, int what) {
        used();
        return x.told(lens, what);
    }
    int datum(int lens, int surface, int sort) {
        used();
        return x.datum(lens, surface, sort);
    }
    int how(int lens, int surface, int sort) {
        used();
        return x.how(lens, surface, sort);
    }
    int move(int move, int what) {
        used();
        return x.move(move, what);
    }
    int view(int lens, int state, int wave) {
        used();
        return x.view(lens, state, wave);
    }
    int first(int what) {
        used();
        return x.first(what);
    }
    int worked(int surface, int sort) {
        used();
        return x.worked(surface, sort);
    }
    int ray(int surface, int what) {
        used();
        return x.ray(surface, what);
    }
    int term(int surface, int term) {
        used();
        return x.term(surface, term);
    }
    int ghost(int i, int j, int what) {
        used();
        return x.ghost(i, j, what);
    }
    int share(int surface) {
        used();
        return x.share(surface);
    }
    int beam(long xAbove, long xBelow, long zAbove, long zBelow, int part) {
        used();
        return x.beam(xAbove, xBelow, zAbove, zBelow, part);
    }
    int stable() {
        used();
        return x.stable();
    }
    int trace(double px, double py, double fx, double fy) {
        used();
        return x.trace(px, py, fx, fy);
    }
    double at(int surface, int what) {
        used();
        return x.at(surface, what);
    }
    int spot(int size, double fx, double fy) {
        used();
        return x.spot(size, fx, fy);
    }
    double spread(int what) {
        used();
        return x.spread(what);
    }
    int merit(int k) {
        used();
        return x.merit(k);
    }
    int value(int k) {
        used();
        return x.value(k);
    }
    int vary(int surface, int sort, long above, long below) {
        used();
        return x.vary(surface, sort, above, below);
    }
    int rounds(int k, int n) {
        used();
        return x.rounds(k, n);
    }
    int tolerance(int surface, int sort, long above, long below) {
        used();
        return x.tolerance(surface, sort, above, below);
    }
    int worse(int tolerance, int side, int k) {
        used();
        return x.worse(tolerance, side, k);
    }
    int draws(int n, long seed, int k, long above, long below) {
        used();
        return x.draws(n, seed, k, above, below);
    }
    int forget() {
        used();
        return x.forget();
    }
    int disk(int i) {
        used();
        return x.disk(i);
    }
    int alter(int i, int bits) {
        used();
        return x.alter(i, bits);
    }
    int crash(int n) {
        used();
        return x.crash(n);
    }
    int open() {
        used();
        return x.open();
    }
    int count(int what) {
        used();
        return x.count(what);
    }
}
