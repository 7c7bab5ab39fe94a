import java.math.BigInteger;
import java.util.ArrayList;
import java.util.Arrays;
import java.util.HashMap;
import java.util.List;
import java.util.Map;
import java.util.Random;
import java.util.TreeMap;

/**
 * Random runs of calls, held against a second telling of the document that is written for plainness alone: whole
 * numbers without bounds, every LENS made anew from its WAY for each call, Math.sqrt.
 * Arguments: how many runs, the first seed.
 */
public final class ModelTest {
    static final int NONE = -1, BAD = -2, NO = -3, FULL = -4;
    static final BigInteger FAR = BigInteger.ONE.shiftLeft(62);

    // ---------------------------------------------------------------- fractions; null is LOST

    record F(BigInteger a, BigInteger b) {
        static F of(long a, long b) {
            BigInteger x = BigInteger.valueOf(a), y = BigInteger.valueOf(b), g = x.gcd(y);
            return new F(x.divide(g), y.divide(g));
        }
        int sign() { return a.signum(); }
        double d() { return (double) a.longValueExact() / (double) b.longValueExact(); }
    }
    static final F ZERO = F.of(0, 1), ONE = F.of(1, 1);

    static boolean far(BigInteger x) { return x.abs().compareTo(FAR) >= 0; }
    static F mul(F x, F y) {
        if (x == null || y == null) return null;
        BigInteger e = x.a.gcd(y.b), f = y.a.gcd(x.b);
        BigInteger up = x.a.divide(e).multiply(y.a.divide(f)), down = x.b.divide(f).multiply(y.b.divide(e));
        return far(up) || far(down) ? null : new F(up, down);
    }
    static F div(F x, F y) {
        if (x == null || y == null || y.sign() == 0) return null;
        return mul(x, y.sign() < 0 ? new F(y.b.negate(), y.a.negate()) : new F(y.b, y.a));
    }
    static F add(F x, F y) {
        if (x == null || y == null) return null;
        BigInteger g = x.b.gcd(y.b), p = x.a.multiply(y.b.divide(g)), q = y.a.multiply(x.b.divide(g));
        BigInteger s = p.add(q), m = x.b.multiply(y.b.divide(g));
        if (far(p) || far(q) || far(s) || far(m)) return null;
        BigInteger c = s.gcd(m);
        return new F(s.divide(c), m.divide(c));
    }
    static F neg(F x) { return x == null ? null : new F(x.a.negate(), x.b); }
    static F sub(F x, F y) { return add(x, neg(y)); }
    static F abs(F x) { return new F(x.a.abs(), x.b); }
    static int cmp(F x, F y) { return x.a.multiply(y.b).compareTo(y.a.multiply(x.b)); }

    // ---------------------------------------------------------------- moves and what they make

    record Move(int kind, int lens, int surface, int what, int ahead, F f, int before, int tells) {
        int[] bytes() {
            int[] out = new int[23];
            out[0] = kind;
            out[1] = lens;
            out[2] = surface & 255;
            out[3] = what & 255;
            out[4] = ahead & 255;
            long up = kind == 8 ? tells : f == null ? 0 : f.a.longValueExact();
            long down = f == null ? 0 : f.b.longValueExact();
            for (int i = 0; i < 8; i++) {
                out[5 + i] = (int) (up >> (8 * (7 - i)) & 255);
                out[13 + i] = (int) (down >> (8 * (7 - i)) & 255);
            }
            int sum = 0;
            for (int i = 0; i < 21; i++) sum = (31 * sum + out[i]) % 65536;
            out[21] = sum / 256;
            out[22] = sum % 256;
            return out;
        }
        String about() {
            return switch (kind) {
                case 1, 4, 5 -> "datum " + surface + " " + what;
                case 2 -> "behind " + surface;
                case 3 -> "stop";
                case 6 -> "zoom " + surface + " " + what;
                default -> "film " + surface;
            };
        }
        String text() { return kind + " " + surface + " " + what + " " + ahead + " " + f; }
    }

    record Datum(int how, F f) { }

    static final class L {
        int m, stop;
        final Map<String, Datum> data = new TreeMap<>();
        final Map<String, F> zooms = new TreeMap<>();
        final int[] behind = new int[10], films = new int[10];
        Datum datum(int surface, int sort) {
            Datum d = data.get(surface + " " + sort);
            return d != null ? d : new Datum(0, sort == 6 ? ONE : ZERO);
        }
        String text() {
            StringBuilder b = new StringBuilder().append(m).append(' ').append(stop);
            for (int s = 0; s < m; s++) {
                for (int k = 0; k < 4; k++) b.append(datum(s, k));
                b.append(behind[s]).append(' ').append(films[s]).append(' ');
            }
            for (int k = 4; k < 7; k++) b.append(datum(NONE, k));
            return b.append(zooms).toString();
        }
    }

    final List<Move> moves = new ArrayList<>();
    final List<Integer> heads = new ArrayList<>();
    int[] disk = new int[0];
    final F[][] glass = new F[8][3];
    final List<List<Object[]>> films = new ArrayList<>();
    List<Integer> tape = new ArrayList<>();
    F fraction = ZERO;
    int vLens = NONE, vState, vWave;
    final List<Object[]> variables = new ArrayList<>(), tolerances = new ArrayList<>();
    final List<List<Object[]>> merits = new ArrayList<>();
    double[][] traced = null;
    int passed = 0;
    double sx = 0.0, sy = 0.0, ss = 0.0;

    ModelTest() {
        for (F[] row : glass) Arrays.fill(row, ONE);
        for (int i = 0; i < 4; i++) { films.add(new ArrayList<>()); merits.add(new ArrayList<>()); }
    }

    List<Integer> way(int lens) {
        List<Integer> out = new ArrayList<>();
        for (int i = heads.get(lens); i != NONE; i = moves.get(i).before) out.add(0, i);
        return out;
    }
    L make(int lens) {
        L out = new L();
        for (int i : way(lens)) {
            Move v = moves.get(i);
            switch (v.kind) {
                case 0 -> { out.m = v.what; Arrays.fill(out.films, NONE); }
                case 1 -> out.data.put(v.surface + " " + v.what, new Datum(0, v.f));
                case 2 -> out.behind[v.surface] = v.what;
                case 3 -> out.stop = v.surface;
                case 4 -> out.data.put(v.surface + " " + v.what, new Datum(1 + v.ahead, v.f));
                case 5 -> out.data.put(v.surface + " " + v.what, new Datum(20, v.f));
                case 6 -> out.zooms.put(v.surface + " " + v.what, v.f);
                default -> out.films[v.surface] = v.what;
            }
        }
        return out;
    }
    boolean lensThere(int lens) { return lens >= 0 && lens < heads.size(); }
    boolean surfaceThere(int lens, int s) { return lensThere(lens) && s >= 0 && s < make(lens).m; }

    int doMove(int kind, int lens, int surface, int what, int ahead, F f, int tells) {
        if (moves.size() >= 400) return FULL;
        int before = kind == 0 ? NONE : kind == 8 ? tells : heads.get(lens);
        Move v = new Move(kind, lens, surface, what, ahead, f, before, tells);
        int number = moves.size();
        moves.add(v);
        int head = kind == 8 ? tells : number;
        if (lens == heads.size()) heads.add(head); else heads.set(lens, head);
        int[] longer = Arrays.copyOf(disk, disk.length + 23);
        System.arraycopy(v.bytes(), 0, longer, disk.length, 23);
        disk = longer;
        return number;
    }

    static F told(long a, long b) {
        long far = 1L << 40;
        if (b <= 0 || b >= far || a >= far || a <= -far) return null;
        return F.of(a, b);
    }
    int answer(F f) { fraction = f == null ? ZERO : f; return f == null ? 0 : 1; }

    int feed(int... n) {
        if (tape.size() + 20 > 400) return FULL;
        for (int x : n) for (int i = 3; i >= 0; i--) tape.add(x >> 8 * i & 255);
        return tape.size();
    }
    int cut(int n) {
        if (n < 0 || n > tape.size()) return BAD;
        int gone = tape.size() - n;
        tape = new ArrayList<>(tape.subList(0, n));
        return gone;
    }
    int glass(int g, int w, long a, long b) {
        F f = told(a, b);
        if (g < 0 || g > 7 || w < 0 || w > 2 || f == null || f.sign() <= 0) return BAD;
        glass[g][w] = f;
        return 1;
    }
    int film(int f) {
        if (f < 0 || f > 3) return BAD;
        int n = films.get(f).size();
        films.get(f).clear();
        return n;
    }
    int layer(int film, int q, long a, long b) {
        F f = told(a, b);
        if (film < 0 || film > 3 || q < 0 || q > 7 || f == null || f.sign() <= 0) return BAD;
        if (films.get(film).size() >= 8) return FULL;
        films.get(film).add(new Object[] {q, f});
        return films.get(film).size();
    }
    int lens(int m) {
        if (m < 1 || m > 10) return BAD;
        if (heads.size() >= 8) return FULL;
        int n = heads.size();
        return doMove(0, n, NONE, m, NONE, null, NONE) < 0 ? FULL : n;
    }
    int set(int l, int s, int sort, long a, long b) {
        F f = told(a, b);
        if (!lensThere(l) || f == null || sort < 0 || sort > 6) return BAD;
        if (sort < 4 ? !surfaceThere(l, s) : s != NONE) return BAD;
        if ((sort == 3 || sort == 4) && f.sign() < 0) return BAD;
        return doMove(1, l, s, sort, NONE, f, NONE);
    }
    int behind(int l, int s, int w) {
        return !surfaceThere(l, s) || w < 0 || w > 8 ? BAD : doMove(2, l, s, w, NONE, null, NONE);
    }
    int stop(int l, int s) { return !surfaceThere(l, s) ? BAD : doMove(3, l, s, NONE, NONE, null, NONE); }
    int pick(int l, int s, int sort, int from, long a, long b) {
        F f = told(a, b);
        if (!surfaceThere(l, s) || sort < 0 || sort > 2 || from < 0 || from >= s || f == null) return BAD;
        return doMove(4, l, s, sort, from, f, NONE);
    }
    int solve(int l, int s, int sort, long a, long b) {
        F f = told(a, b);
        return !surfaceThere(l, s) || sort < 0 || sort > 1 || f == null ? BAD : doMove(5, l, s, sort, NONE, f, NONE);
    }
    int zoom(int l, int s, int st, long a, long b) {
        F f = told(a, b);
        return !surfaceThere(l, s) || st < 1 || st > 3 || f == null ? BAD : doMove(6, l, s, st, NONE, f, NONE);
    }
    int coat(int l, int s, int film) {
        return !surfaceThere(l, s) || film < NONE || film > 3 ? BAD : doMove(7, l, s, film, NONE, null, NONE);
    }
    int undo(int l) {
        if (!lensThere(l)) return BAD;
        Move h = moves.get(heads.get(l));
        return h.kind == 0 ? NO : doMove(8, l, NONE, NONE, NONE, null, h.before);
    }
    int branch(int v) {
        if (v < 0 || v >= moves.size() || moves.get(v).kind == 8) return BAD;
        int n = heads.size();
        return n >= 8 || doMove(8, n, NONE, NONE, NONE, null, v) < 0 ? FULL : n;
    }
    int merge(int a, int b) {
        if (!lensThere(a) || !lensThere(b)) return BAD;
        if (a == b) return 0;
        List<Integer> p = way(a), q = way(b);
        int common = 0;
        while (common < p.size() && common < q.size() && p.get(common).equals(q.get(common))) common++;
        if (common == 0) return NO;
        p = p.subList(common, p.size());
        q = q.subList(common, q.size());
        Map<String, String> mine = new HashMap<>(), theirs = new HashMap<>();
        for (int i : p) mine.put(moves.get(i).about(), moves.get(i).text());
        for (int i : q) theirs.put(moves.get(i).about(), moves.get(i).text());
        int conflicts = 0;
        for (String k : mine.keySet()) if (theirs.containsKey(k) && !theirs.get(k).equals(mine.get(k))) conflicts++;
        if (conflicts > 0) return -10 - conflicts;
        if (moves.size() + q.size() > 400) return FULL;
        for (int i : q) {
            Move v = moves.get(i);
            doMove(v.kind, a, v.surface, v.what, v.ahead, v.f, NONE);
        }
        return q.size();
    }
    boolean same(int a, int b) { return lensThere(a) && lensThere(b) && make(a).text().equals(make(b).text()); }
    int toldOf(int l, int what) {
        if (!lensThere(l) || what < 0 || what > 4) return BAD;
        L x = make(l);
        int mirrors = 0;
        for (int s = 0; s < x.m; s++) if (x.behind[s] == 8) mirrors++;
        return new int[] {x.m, heads.get(l), x.stop, way(l).size(), mirrors}[what];
    }
    int datum(int l, int s, int sort) {
        if (!lensThere(l) || sort < 0 || sort > 6 || (sort < 4 ? !surfaceThere(l, s) : s != NONE)) return BAD;
        return answer(make(l).datum(s, sort).f);
    }
    int how(int l, int s, int sort) {
        return !surfaceThere(l, s) || sort < 0 || sort > 3 ? BAD : make(l).datum(s, sort).how;
    }
    int move(int v, int what) {
        if (v < 0 || v >= moves.size() || what < 0 || what > 4) return BAD;
        Move x = moves.get(v);
        return new int[] {x.kind, x.lens, x.before, x.surface, x.what}[what];
    }
    int view(int l, int st, int w) {
        if (!lensThere(l) || st < 0 || st > 3 || w < 0 || w > 2) return BAD;
        if (l != vLens) { variables.clear(); tolerances.clear(); }
        vLens = l;
        vState = st;
        vWave = w;
        return 1;
    }

    // ---------------------------------------------------------------- near the axis

    final class Axis {
        final L x;
        final int m;
        final F[] c = new F[10], t = new F[10], k = new F[10];
        final F object, field, beam;
        final F[][] mar, chi, ra, rb;

        Axis(L lens) { this(lens, Map.of()); }

        /** told: data that stand otherwise than the LENS tells them (perhaps LOST). */
        Axis(L lens, Map<String, F[]> told) {
            x = lens;
            m = lens.m;
            object = x.datum(NONE, 4).f;
            field = x.datum(NONE, 5).f;
            beam = x.datum(NONE, 6).f;
            F y = beam, u = object.sign() == 0 ? ZERO : div(beam, object);
            for (int s = 0; s < m; s++) {
                F n = index(s, 0), nn = index(s + 1, 0);
                c[s] = work(c, s, 0, told, div(sub(mul(n, u), mul(nn, x.datum(s, 0).f)), mul(y, sub(nn, n))));
                u = div(sub(mul(n, u), mul(mul(y, c[s]), sub(nn, n))), nn);
                t[s] = work(t, s, 1, told, div(sub(x.datum(s, 1).f, y), u));
                k[s] = work(k, s, 2, told, null);
                y = add(y, mul(t[s], u));
            }
            mar = go(beam, object.sign() == 0 ? ZERO : div(beam, object));
            ra = go(ONE, ZERO);
            rb = go(ZERO, ONE);
            F a = ra[x.stop][0], b = rb[x.stop][0], cu, cy;
            if (object.sign() == 0) {
                cu = field;
                cy = neg(div(mul(b, field), a));
            } else {
                cu = neg(div(mul(a, field), add(mul(a, object), b)));
                cy = add(field, mul(object, cu));
            }
            chi = go(cy, cu);
        }
        F work(F[] row, int s, int sort, Map<String, F[]> told, F solved) {
            Datum d = x.datum(s, sort);
            if (d.how == 20) return solved;
            if (d.how > 0) return mul(d.f, row[d.how - 1]);
            if (sort == 1 && vState > 0 && x.zooms.containsKey(s + " " + vState)) return x.zooms.get(s + " " + vState);
            F[] other = told.get(s + " " + sort);
            return other != null ? other[0] : d.f;
        }
        /** The index ahead of SURFACE s. */
        F index(int s, int wave) {
            if (s == 0) return glass[0][wave];
            if (x.behind[s - 1] == 8) return neg(index(s - 1, wave));
            int mirrors = 0;
            for (int i = 0; i < s; i++) if (x.behind[i] == 8) mirrors++;
            F n = glass[x.behind[s - 1]][wave];
            return mirrors % 2 == 1 ? neg(n) : n;
        }
        F n(int s) { return index(s, vWave); }
        F bend(F n, F u, F y, F cc, F nn) { return div(sub(mul(n, u), mul(mul(y, cc), sub(nn, n))), nn); }
        F[][] go(F y, F u) {
            F[][] out = new F[m][];
            for (int s = 0; s < m; s++) {
                F uu = bend(n(s), u, y, c[s], n(s + 1));
                out[s] = new F[] {y, u, uu};
                y = add(y, mul(t[s], uu));
                u = uu;
            }
            return out;
        }
        F first(int w) {
            F a = ra[m - 1][0], b = rb[m - 1][0], cc = ra[m - 1][2], d = rb[m - 1][2];
            F y = mar[m - 1][0], u = mar[m - 1][2], y0 = mar[0][0], u0 = mar[0][1];
            return switch (w) {
                case 0 -> a;
                case 1 -> b;
                case 2 -> cc;
                case 3 -> d;
                case 4 -> div(F.of(-1, 1), cc);
                case 5 -> neg(div(a, cc));
                case 6 -> neg(div(y, u));
                case 7 -> object.sign() == 0 ? null : div(mul(n(0), u0), mul(n(m), u));
                case 8 -> neg(div(chi[0][0], chi[0][1]));
                case 9 -> neg(div(chi[m - 1][0], chi[m - 1][2]));
                case 10 -> mul(n(0), sub(mul(chi[0][0], u0), mul(y0, chi[0][1])));
                case 11 -> div(F.of(-1, 1), mul(F.of(2, 1), u));
                default -> add(a, d);
            };
        }
        F term(int s, int w) {
            F y = mar[s][0], u = mar[s][1], uu = mar[s][2], z = chi[s][0], v = chi[s][1], n = n(s), nn = n(s + 1);
            F p = mul(n, add(u, mul(y, c[s]))), q = mul(n, add(v, mul(z, c[s]))), r = sub(div(uu, nn), div(u, n));
            F h = first(10), out;
            F two = neg(mul(mul(mul(q, q), y), r));
            F three = neg(mul(mul(mul(h, h), c[s]), sub(div(ONE, nn), div(ONE, n))));
            F g = sub(index(s, 1), index(s, 2)), gg = sub(index(s + 1, 1), index(s + 1, 2));
            F vv = sub(div(gg, nn), div(g, n)), w4 = null;
            switch (w) {
                case 0 -> { out = neg(mul(mul(mul(p, p), y), r)); w4 = mul(y, mul(y, mul(y, y))); }
                case 1 -> { out = neg(mul(mul(mul(p, q), y), r)); w4 = mul(y, mul(y, mul(y, z))); }
                case 2 -> { out = two; w4 = mul(y, mul(y, mul(z, z))); }
                case 3 -> out = three;
                case 4 -> { out = mul(div(q, p), add(two, three)); w4 = mul(y, mul(z, mul(z, z))); }
                case 5 -> out = mul(mul(p, y), vv);
                default -> out = mul(mul(q, y), vv);
            }
            if (w != 3 && w < 5 && (k[s] == null || k[s].sign() != 0)) {
                F big = mul(mul(k[s], mul(c[s], mul(c[s], c[s]))), sub(nn, n));
                out = add(out, mul(big, w4));
            }
            return out;
        }
        F sum(int w) {
            F out = ZERO;
            for (int s = 0; s < m; s++) out = add(out, term(s, w));
            return out;
        }
        F share(int s) {
            if (x.behind[s] == 8) return ONE;
            F n = abs(index(s, 0)), nn = abs(index(s + 1, 0));
            if (x.films[s] == NONE) {
                F r = div(sub(n, nn), add(n, nn));
                return mul(r, r);
            }
            F p = ONE, q = nn;
            List<Object[]> film = films.get(x.films[s]);
            for (int i = film.size() - 1; i >= 0; i--) {
                if ((Integer) film.get(i)[0] % 2 == 0) continue;
                F ni = (F) film.get(i)[1], np = div(q, ni), nq = mul(ni, p);
                p = np;
                q = nq;
            }
            F r = div(sub(mul(n, p), q), add(mul(n, p), q));
            return mul(r, r);
        }
        F place(int i, int j) {
            F y = mar[j][0], u = bend(n(j), mar[j][1], y, c[j], neg(n(j)));
            for (int s = j - 1; s > i; s--) {
                y = add(y, mul(neg(t[s]), u));
                u = bend(neg(n(s + 1)), u, y, c[s], neg(n(s)));
            }
            y = add(y, mul(neg(t[i]), u));
            u = bend(neg(n(i + 1)), u, y, c[i], n(i + 1));
            for (int s = i + 1; s < m; s++) {
                y = add(y, mul(t[s - 1], u));
                u = bend(n(s), u, y, c[s], n(s + 1));
            }
            return neg(div(y, u));
        }
        F power(int i, int j) {
            List<Integer> order = new ArrayList<>();
            for (int s = 0; s < j; s++) order.add(s);
            order.add(100 + j);
            for (int s = j - 1; s > i; s--) order.add(s);
            order.add(100 + i);
            for (int s = i + 1; s < m; s++) order.add(s);
            F out = ONE;
            for (int s : order) {
                out = mul(out, s >= 100 ? share(s - 100) : x.behind[s] == 8 ? ONE : sub(ONE, share(s)));
            }
            return out;
        }
        boolean hard() {
            boolean there = first(6) != null && chi[0][0] != null && chi[0][1] != null;
            for (int s = 0; s < m; s++) there &= c[s] != null && t[s] != null && k[s] != null;
            return there;
        }
    }

    Axis axis() { return new Axis(make(vLens)); }
    boolean seen(int s) { return vLens != NONE && surfaceThere(vLens, s); }
    int first(int w) { return vLens == NONE || w < 0 || w > 12 ? BAD : answer(axis().first(w)); }
    int worked(int s, int sort) {
        if (!seen(s) || sort < 0 || sort > 2) return BAD;
        Axis x = axis();
        return answer((sort == 0 ? x.c : sort == 1 ? x.t : x.k)[s]);
    }
    int ray(int s, int w) {
        if (!seen(s) || w < 0 || w > 5) return BAD;
        Axis x = axis();
        return answer(w < 3 ? x.mar[s][w] : x.chi[s][w - 3]);
    }
    int term(int s, int w) {
        if (vLens == NONE || s != NONE && !seen(s) || w < 0 || w > 6) return BAD;
        return answer(s == NONE ? axis().sum(w) : axis().term(s, w));
    }
    int ghost(int i, int j, int w) {
        if (!seen(i) || !seen(j) || i >= j || w < 0 || w > 1) return BAD;
        Axis x = axis();
        if (x.x.behind[i] == 8 || x.x.behind[j] == 8) return BAD;
        return answer(w == 0 ? x.place(i, j) : x.power(i, j));
    }
    int share(int s) { return !seen(s) ? BAD : answer(axis().share(s)); }
    int beam(long xa, long xb, long za, long zb, int part) {
        F x = told(xa, xb), z = told(za, zb);
        if (vLens == NONE || x == null || z == null || z.sign() <= 0 || part < 0 || part > 1) return BAD;
        Axis v = axis();
        F a = v.first(0), b = v.first(1), c = v.first(2), d = v.first(3);
        F e = add(mul(a, x), b), f = mul(a, z), g = add(mul(c, x), d), h = mul(c, z), w = add(mul(g, g), mul(h, h));
        return answer(part == 0 ? div(add(mul(e, g), mul(f, h)), w) : div(sub(mul(f, g), mul(e, h)), w));
    }
    int stable() {
        if (vLens == NONE) return BAD;
        F f = axis().first(12);
        return f == null ? NO : cmp(f, F.of(-2, 1)) > 0 && cmp(f, F.of(2, 1)) < 0 ? 1 : 0;
    }

    // ---------------------------------------------------------------- doubles

    static double kept(double v) { return v > -1000000.0 && v < 1000000.0 ? v : 0.0; }
    static boolean near(double... vs) {
        for (double v : vs) if (!(v > -1.0E60 && v < 1.0E60)) return false;
        return true;
    }
    int fly(Axis a, double px, double py, double fx, double fy, double[][] out) {
        px = kept(px);
        py = kept(py);
        fx = kept(fx);
        fy = kept(fy);
        double b = a.beam.d(), o = a.object.d(), d = a.chi[0][0].d(), e = a.chi[0][1].d(), v = a.first(6).d(), l, m, n;
        double x = px * b + fx * d, y = py * b + fy * d, z = 0.0, path = 0.0, capF = a.field.d();
        if (a.object.sign() == 0) {
            l = fx * e;
            m = fy * e;
        } else {
            l = (x - fx * capF) / o;
            m = (y - fy * capF) / o;
        }
        double r = Math.sqrt(1.0 + l * l + m * m);
        l = l / r;
        m = m / r;
        n = 1.0 / r;
        for (int s = 0; s < a.m; s++) {
            double c = a.c[s].d(), k = a.k[s].d(), i = abs(a.n(s)).d(), ii = abs(a.n(s + 1)).d();
            int missed = 1 + 3 * s;
            if (!near(l, m, n) || n == 0.0) return missed;
            double bigT = -z / n;
            if (!near(bigT)) return missed;
            x = x + bigT * l;
            y = y + bigT * m;
            if (!near(x, y)) return missed;
            double bigP = n - c * (x * l + y * m);
            double bigQ = c * (x * x + y * y);
            double bigR = bigP * bigP - c * (1.0 + k * n * n) * bigQ;
            if (!(bigR >= 0)) return missed;
            double bigS = Math.sqrt(bigR);
            if (n < 0) bigS = -bigS;
            if (bigP + bigS == 0.0) return missed;
            double bigD = bigQ / (bigP + bigS);
            if (!near(bigD)) return missed;
            x = x + bigD * l;
            y = y + bigD * m;
            z = bigD * n;
            path = path + i * (bigT + bigD);
            double bigU = 0.0 - c * x, bigV = 0.0 - c * y, bigW = 1.0 - (1.0 + k) * c * z;
            double bigE = Math.sqrt(bigU * bigU + bigV * bigV + bigW * bigW);
            if (bigE == 0.0) return missed;
            out[s] = new double[] {x, y, z, 0.0, 0.0, 0.0, path};
            F h = a.x.datum(s, 3).f;
            if (h.sign() != 0 && x * x + y * y > h.d() * h.d()) return missed + 1;
            bigU = bigU / bigE;
            bigV = bigV / bigE;
            bigW = bigW / bigE;
            double bigJ = l * bigU + m * bigV + n * bigW, bigG, q;
            if (a.x.behind[s] == 8) {
                bigG = -2.0 * bigJ;
                q = 1.0;
            } else {
                q = i / ii;
                double bigK = 1.0 - q * q * (1.0 - bigJ * bigJ);
                if (!(bigK >= 0)) return missed + 2;
                bigG = Math.sqrt(bigK);
                if (bigJ < 0) bigG = -bigG;
                bigG = bigG - q * bigJ;
            }
            l = q * l + bigG * bigU;
            m = q * m + bigG * bigV;
            n = q * n + bigG * bigW;
            out[s] = new double[] {x, y, z, l, m, n, path};
            z = s == a.m - 1 ? z - v : z - a.t[s].d();
        }
        int missed = 1 + 3 * a.m;
        if (!near(l, m, n) || n == 0.0) return missed;
        double bigT = -z / n;
        if (!near(bigT)) return missed;
        x = x + bigT * l;
        y = y + bigT * m;
        path = path + abs(a.n(a.m)).d() * bigT;
        if (!near(x, y)) return missed;
        out[a.m] = new double[] {x, y, 0.0, l, m, n, path};
        return 0;
    }
    int trace(double px, double py, double fx, double fy) {
        if (vLens == NONE) return BAD;
        Axis a = axis();
        if (!a.hard()) return NO;
        traced = new double[a.m + 1][7];
        return fly(a, px, py, fx, fy, traced);
    }
    double at(int s, int w) {
        return traced == null || s < 0 || s >= traced.length || w < 0 || w > 6 ? 0.0 : traced[s][w];
    }
    int spot(int g, double fx, double fy) {
        if (vLens == NONE || g < 1 || g > 6) return BAD;
        Axis a = axis();
        if (!a.hard()) return NO;
        passed = 0;
        sx = sy = ss = 0.0;
        for (int j = -g; j <= g; j++) {
            for (int i = -g; i <= g; i++) {
                if (i * i + j * j > g * g) continue;
                double[][] out = new double[a.m + 1][7];
                if (fly(a, (double) i / g, (double) j / g, fx, fy, out) != 0) continue;
                double x = out[a.m][0], y = out[a.m][1];
                passed++;
                sx = sx + x;
                sy = sy + y;
                ss = ss + (x * x + y * y);
            }
        }
        return passed;
    }
    double spread(int w) {
        double mx = passed == 0 ? 0.0 : sx / passed, my = passed == 0 ? 0.0 : sy / passed;
        return switch (w) {
            case 0 -> sx;
            case 1 -> sy;
            case 2 -> ss;
            case 3 -> mx;
            case 4 -> my;
            case 5 -> passed == 0 ? 0.0 : (ss / passed) - (mx * mx + my * my);
            default -> 0.0;
        };
    }

    // ---------------------------------------------------------------- merits

    static final List<String> FIRSTS = List.of("focal", "back", "image", "mag", "number");
    static final int[] FIRST_OF = {4, 5, 6, 7, 11};

    /** The place where the text is wrong goes up as an exception. */
    static final class Wrong extends RuntimeException {
        private static final long serialVersionUID = 1L;
        final int place;
        Wrong(int place) { super(null, null, false, false); this.place = place; }
    }
    List<Object[]> tokens(String t) {
        List<Object[]> out = new ArrayList<>();
        int i = 0;
        while (i < t.length()) {
            char ch = t.charAt(i);
            if (ch == ' ' || ch == '\n') { i++; continue; }
            int j = i + 1;
            String kind = "?";
            if (ch >= 'a' && ch <= 'z') {
                while (j < t.length() && t.charAt(j) >= 'a' && t.charAt(j) <= 'z') j++;
                kind = "w";
            } else if (ch >= '0' && ch <= '9') {
                while (j < t.length() && t.charAt(j) >= '0' && t.charAt(j) <= '9') j++;
                kind = j - i <= 9 ? "d" : "?";
            } else if ("=<>;-/".indexOf(ch) >= 0) {
                kind = "s";
            }
            out.add(new Object[] {kind, t.substring(i, j), i});
            i = j;
        }
        out.add(new Object[] {"end", "", t.length()});
        return out;
    }
    int p;
    boolean is(List<Object[]> ts, String kind, String text) {
        return ts.get(p)[0].equals(kind) && (text == null || ts.get(p)[1].equals(text));
    }
    Wrong wrong(List<Object[]> ts) { return new Wrong((Integer) ts.get(p)[2]); }
    long digits(List<Object[]> ts, long least, long most) {
        if (!is(ts, "d", null)) throw wrong(ts);
        long n = Long.parseLong((String) ts.get(p)[1]);
        if (n < least || n > most) throw wrong(ts);
        p++;
        return n;
    }
    F number(List<Object[]> ts) {
        boolean minus = is(ts, "s", "-");
        if (minus) p++;
        long a = digits(ts, 0, 999999999), b = 1;
        if (is(ts, "s", "/")) {
            p++;
            b = digits(ts, 1, 999999999);
        }
        return F.of(minus ? -a : a, b);
    }
    int merit(int k) {
        if (k < 0 || k > 3) return BAD;
        StringBuilder b = new StringBuilder();
        for (int x : tape) b.append((char) x);
        tape.clear();
        List<Object[]> ts = tokens(b.toString());
        List<Object[]> rows = new ArrayList<>();
        p = 0;
        try {
            while (true) {
                if (rows.size() == 10 || !is(ts, "w", null)) throw wrong(ts);
                String word = (String) ts.get(p)[1];
                int n = 0;
                if (!FIRSTS.contains(word) && !List.of("sum", "curve", "gap").contains(word)) throw wrong(ts);
                p++;
                if (!FIRSTS.contains(word)) n = (int) digits(ts, 0, word.equals("sum") ? 6 : 9);
                if (!is(ts, "s", "=") && !is(ts, "s", "<") && !is(ts, "s", ">")) throw wrong(ts);
                String sign = (String) ts.get(p++)[1];
                F f = number(ts), by = ONE;
                if (is(ts, "w", "by")) {
                    p++;
                    by = number(ts);
                }
                rows.add(new Object[] {word, n, sign, f, by});
                if (is(ts, "end", null)) break;
                if (!is(ts, "s", ";")) throw wrong(ts);
                p++;
            }
        } catch (Wrong w) {
            return -10 - w.place;
        }
        merits.set(k, rows);
        return rows.size();
    }
    F worth(int k, Axis x) {
        F out = ZERO;
        for (Object[] row : merits.get(k)) {
            String word = (String) row[0];
            int n = (Integer) row[1];
            F v = switch (word) {
                case "sum" -> x.sum(n);
                case "curve" -> n < x.m ? x.c[n] : null;
                case "gap" -> n < x.m ? x.t[n] : null;
                default -> x.first(FIRST_OF[FIRSTS.indexOf(word)]);
            };
            if (v == null) return null;
            F number = (F) row[3];
            if (row[2].equals("<") && cmp(v, number) <= 0 || row[2].equals(">") && cmp(v, number) >= 0) continue;
            out = add(out, mul((F) row[4], mul(sub(v, number), sub(v, number))));
        }
        return out;
    }
    int value(int k) { return k < 0 || k > 3 || vLens == NONE ? BAD : answer(worth(k, axis())); }
    int more(List<Object[]> to, int most, int s, int sort, long a, long b) {
        F f = told(a, b);
        if (!seen(s) || sort < 0 || sort > 1 || f == null || f.sign() <= 0) return BAD;
        if (to.size() >= most) return FULL;
        to.add(new Object[] {s, sort, f});
        return to.size();
    }
    int rounds(int k, int n) {
        if (k < 0 || k > 3 || n < 0 || n > 20 || vLens == NONE) return BAD;
        F best = worth(k, axis());
        if (best == null) return NO;
        F scale = ONE;
        int halvings = 0;
        for (int round = 1; round <= n; round++) {
            boolean any = false;
            for (Object[] v : variables) {
                int s = (Integer) v[0], sort = (Integer) v[1];
                Datum d = make(vLens).datum(s, sort);
                if (d.how != 0) continue;
                F step = mul((F) v[2], scale);
                for (F f : new F[] {add(d.f, step), sub(d.f, step)}) {
                    F got = worth(k, new Axis(make(vLens), Map.of(s + " " + sort, new F[] {f})));
                    if (got == null || cmp(got, best) >= 0) continue;
                    if (doMove(1, vLens, s, sort, NONE, f, NONE) == FULL) return round;
                    best = got;
                    any = true;
                    break;
                }
            }
            if (!any) {
                scale = mul(scale, F.of(1, 2));
                if (++halvings == 4) return round;
            }
        }
        return n;
    }
    void shift(Map<String, F[]> told, Object[] tolerance, boolean up) {
        String key = tolerance[0] + " " + tolerance[1];
        F now = told.containsKey(key) ? told.get(key)[0]
                : make(vLens).datum((Integer) tolerance[0], (Integer) tolerance[1]).f;
        F step = (F) tolerance[2];
        told.put(key, new F[] {up ? add(now, step) : sub(now, step)});
    }
    int worse(int i, int side, int k) {
        if (vLens == NONE || i < 0 || i >= tolerances.size() || side < 0 || side > 1 || k < 0 || k > 3) return BAD;
        Map<String, F[]> told = new HashMap<>();
        shift(told, tolerances.get(i), side == 0);
        return answer(worth(k, new Axis(make(vLens), told)));
    }
    int draws(int n, long seed, int k, long a, long b) {
        F limit = told(a, b);
        if (vLens == NONE || n < 0 || n > 60 || k < 0 || k > 3 || limit == null) return BAD;
        long z = seed;
        int counted = 0;
        for (int i = 0; i < n; i++) {
            Map<String, F[]> told = new HashMap<>();
            for (Object[] t : tolerances) {
                z = z * 6364136223846793005L + 1442695040888963407L;
                shift(told, t, z < 0);
            }
            F got = worth(k, new Axis(make(vLens), told));
            if (got != null && cmp(got, limit) <= 0) counted++;
        }
        return counted;
    }
    int forget() {
        int n = variables.size() + tolerances.size();
        variables.clear();
        tolerances.clear();
        return n;
    }

    // ---------------------------------------------------------------- the disk

    int disk(int i) { return i < 0 || i >= disk.length ? BAD : disk[i]; }
    int alter(int i, int bits) {
        if (i < 0 || i >= disk.length || bits < 0 || bits > 255) return BAD;
        return disk[i] ^= bits;
    }
    int crash(int n) {
        if (n < 0 || n > 23 || moves.isEmpty()) return BAD;
        disk = Arrays.copyOf(disk, disk.length - 23 + n);
        return open();
    }
    static int signed(int b) { return b == 255 ? NONE : b; }
    /** Does the MOVE of 23 bytes again by the calls' own rules; false, if it could not be, or has other bytes. */
    boolean again(int[] b) {
        long up = 0, down = 0;
        for (int i = 0; i < 8; i++) {
            up = up << 8 | b[5 + i];
            down = down << 8 | b[13 + i];
        }
        int kind = b[0], l = b[1], s = signed(b[2]), what = signed(b[3]), ahead = signed(b[4]);
        F f = null;
        boolean could;
        if (kind == 1 || kind == 4 || kind == 5 || kind == 6) {
            if (down <= 0 || far(BigInteger.valueOf(down)) || far(BigInteger.valueOf(up))) return false;
            f = F.of(up, down);
        }
        switch (kind) {
            case 0 -> could = l == heads.size() && l < 8 && what >= 1 && what <= 10;
            case 1 -> could = lensThere(l) && (surfaceThere(l, s) ? what >= 0 && what < 4 : s == NONE && what > 3 && what < 7)
                    && (what != 3 && what != 4 || f.sign() >= 0);
            case 2 -> could = surfaceThere(l, s) && what >= 0 && what <= 8;
            case 3 -> could = surfaceThere(l, s);
            case 4 -> could = surfaceThere(l, s) && what >= 0 && what < 3 && ahead >= 0 && ahead < s;
            case 5 -> could = surfaceThere(l, s) && what >= 0 && what < 2;
            case 6 -> could = surfaceThere(l, s) && what > 0 && what < 4;
            case 7 -> could = surfaceThere(l, s) && what >= NONE && what < 4;
            case 8 -> could = l <= heads.size() && l < 8 && up >= 0 && up < moves.size()
                    && moves.get((int) up).kind != 8;
            default -> could = false;
        }
        if (!could) return false;
        if (kind == 0 || kind == 8) s = NONE;
        if (kind == 3 || kind == 8) what = NONE;
        if (kind != 4) ahead = NONE;
        int[] was = disk;
        Move just = new Move(kind, l, s, what, ahead, f, NONE, kind == 8 ? (int) up : NONE);
        if (!Arrays.equals(just.bytes(), b)) return false;
        doMove(kind, l, s, what, ahead, f, just.tells);
        return was != disk;
    }
    int open() {
        int[] old = disk;
        disk = new int[0];
        moves.clear();
        heads.clear();
        vLens = NONE;
        forget();
        traced = null;
        passed = 0;
        sx = sy = ss = 0.0;
        for (int i = 0; i + 23 <= old.length; i += 23) {
            if (!again(Arrays.copyOfRange(old, i, i + 23))) break;
        }
        return moves.size();
    }
    int count(int w) {
        return switch (w) {
            case 0 -> heads.size();
            case 1 -> moves.size();
            case 2 -> disk.length;
            case 3 -> variables.size();
            case 4 -> tolerances.size();
            case 5 -> tape.size();
            case 6 -> vLens;
            case 7 -> vLens == NONE ? 0 : vState;
            case 8 -> vLens == NONE ? 0 : vWave;
            default -> BAD;
        };
    }

    // ---------------------------------------------------------------- random runs

    static final class Run {
        final Random r;
        final OpticalHouse x = new OpticalHouse();
        final ModelTest y = new ModelTest();
        final List<String> log = new ArrayList<>();
        final boolean tame;
        final Map<String, Integer> seenAnswers;
        int wrong = 0, calls = 0;

        Run(long seed, Map<String, Integer> seenAnswers) {
            r = new Random(seed);
            tame = r.nextInt(3) > 0;
            this.seenAnswers = seenAnswers;
        }
        int pick(int end) { return r.nextInt(25) == 0 ? r.nextInt(end + 6) - 3 : r.nextInt(end); }
        int odd(int n) {
            return r.nextInt(60) != 0 ? n
                    : new int[] {-1, -2, 255, 256, Integer.MIN_VALUE, Integer.MAX_VALUE, n + 1, n - 1}[r.nextInt(8)];
        }
        long big() {
            return switch (r.nextInt(6)) {
                case 0 -> (1L << 40) - r.nextInt(2);
                case 1 -> -(1L << 40) + r.nextInt(2);
                case 2 -> r.nextBoolean() ? Long.MIN_VALUE : Long.MAX_VALUE;
                case 3 -> r.nextLong() >> r.nextInt(40);
                default -> (r.nextLong() >> 24) | 1;
            };
        }
        long up(int range) { return r.nextInt(tame ? 120 : 40) == 0 ? big() : r.nextInt(2 * range + 1) - range; }
        long down(int range) { return r.nextInt(tame ? 120 : 40) == 0 ? big() : 1 + r.nextInt(range); }
        long plus(int range) { return r.nextInt(40) == 0 ? up(range) : 1 + r.nextInt(range); }

        void due(String call, long got, long want) {
            calls++;
            check(call, got, want);
        }
        void check(String call, long got, long want) {
            log.add(call + " " + got);
            String name = call.substring(0, call.indexOf('('));
            seenAnswers.merge(name + (want < 0 ? " " + Math.max(want, -11) : want == 0 ? " 0" : " +"), 1, Integer::sum);
            if (got != want) fail(call, Long.toString(got), Long.toString(want));
        }
        void dueD(String call, double got, double want) {
            log.add(call + " " + got);
            seenAnswers.merge(call.substring(0, call.indexOf('(')) + (want == 0.0 ? " 0" : " +"), 1, Integer::sum);
            if (Double.doubleToLongBits(got) != Double.doubleToLongBits(want)) fail(call, "" + got, "" + want);
        }
        void fail(String call, String got, String want) {
            wrong++;
            if (wrong == 1) {
                for (String s : log) System.out.println("    " + s);
            }
            System.out.println(call + " answered " + got + ", due is " + want);
        }
        void fraction() {
            check("above()", x.above(), y.fraction.a.longValueExact());
            check("below()", x.below(), y.fraction.b.longValueExact());
        }
        int lens() { return odd(y.heads.isEmpty() ? 0 : r.nextInt(10) == 0 ? pick(8) : r.nextInt(y.heads.size())); }
        int surface(int lens) { return odd(y.lensThere(lens) ? pick(y.make(lens).m) : pick(10)); }
        int viewed() { return y.vLens; }

        void feed(String text) {
            int at = 0;
            while (at < text.length()) {
                int[] n = new int[5];
                for (int i = 0; i < 20; i++) {
                    int b = at + i < text.length() ? text.charAt(at + i) : 0;
                    n[i / 4] = n[i / 4] << 8 | b;
                }
                due("feed(" + Arrays.toString(n) + ")", x.feed(n[0], n[1], n[2], n[3], n[4]), y.feed(n));
                at += 20;
            }
            int left = y.tape.size() - (at - text.length());
            due("cut(" + left + ")", x.cut(left), y.cut(left));
        }
        String number() {
            String t = (r.nextInt(4) == 0 ? "-" : "") + (r.nextInt(3) == 0 ? " " : "") + (r.nextInt(30) == 0
                    ? "" + Math.abs(r.nextLong()) / (r.nextBoolean() ? 1 : 10000000000L) : "" + r.nextInt(60));
            return r.nextInt(3) == 0 ? t + "/" + (r.nextInt(20) == 0 ? r.nextInt(2) : 1 + r.nextInt(30)) : t;
        }
        String row() {
            String[] words = {"focal", "back", "image", "mag", "number", "sum", "sum", "curve", "gap", "gap"};
            String w = words[r.nextInt(words.length)];
            if (w.equals("sum")) w = w + " " + pick(7);
            else if (w.equals("curve") || w.equals("gap")) w = w + (r.nextBoolean() ? " " : "\n ") + (r.nextInt(4) == 0 ? pick(10) : r.nextInt(3));
            return w + " " + "=<>".charAt(r.nextInt(3)) + number() + (r.nextInt(3) == 0 ? " by " + number() : "");
        }
        String text() {
            StringBuilder b = new StringBuilder(row());
            int rows = r.nextInt(14) == 0 ? 9 + r.nextInt(3) : r.nextInt(3);
            for (int i = 0; i < rows; i++) b.append(r.nextBoolean() ? ";" : " ; ").append(row());
            if (r.nextInt(8) == 0) b.append("  ");
            if (r.nextInt(5) == 0) {
                int i = r.nextInt(b.length() + 1);
                String odd = "az =<>;-/0917by\n\u00ff@A`{:";
                if (r.nextBoolean()) b.insert(i, odd.charAt(r.nextInt(odd.length())));
                else b.setLength(i);
            }
            if (b.length() > 360) b.setLength(360);
            return b.toString();
        }

        void step() {
            int l = lens(), s = surface(l), v = y.vLens == NONE ? pick(10) : surface(y.vLens);
            switch (r.nextInt(46)) {
                case 0 -> {
                    int m = odd(r.nextInt(3) == 0 ? pick(12) : 1 + r.nextInt(3));
                    due("lens(" + m + ")", x.lens(m), y.lens(m));
                }
                case 1, 2, 3, 4, 5 -> {
                    int sort = odd(pick(7));
                    if (sort > 3 && r.nextInt(12) != 0) s = NONE;
                    long a = sort == 0 ? up(5) : sort == 1 ? up(9) : sort == 2 ? up(2) : sort == 3 ? up(9) : up(7);
                    if (sort > 2 && sort < 5 && r.nextInt(5) > 0) a = Math.abs(a);
                    long b = sort == 0 ? 10 * down(9) : down(3);
                    due("set(" + l + ", " + s + ", " + sort + ", " + a + ", " + b + ")", x.set(l, s, sort, a, b), y.set(l, s, sort, a, b));
                }
                case 6, 7 -> {
                    int w = odd(r.nextInt(6) == 0 ? 8 : pick(9));
                    due("behind(" + l + ", " + s + ", " + w + ")", x.behind(l, s, w), y.behind(l, s, w));
                }
                case 8 -> due("stop(" + l + ", " + s + ")", x.stop(l, s), y.stop(l, s));
                case 9 -> {
                    int sort = odd(pick(3)), from = odd(s > 0 ? r.nextInt(s) : pick(3));
                    long a = up(3), b = down(3);
                    due("pick(" + l + ", " + s + ", " + sort + ", " + from + ", " + a + ", " + b + ")", x.pick(l, s, sort, from, a, b), y.pick(l, s, sort, from, a, b));
                }
                case 10 -> {
                    int sort = odd(pick(2));
                    long a = up(3), b = down(8);
                    due("solve(" + l + ", " + s + ", " + sort + ", " + a + ", " + b + ")", x.solve(l, s, sort, a, b), y.solve(l, s, sort, a, b));
                }
                case 11 -> {
                    int st = odd(1 + pick(3));
                    long a = up(9), b = down(3);
                    due("zoom(" + l + ", " + s + ", " + st + ", " + a + ", " + b + ")", x.zoom(l, s, st, a, b), y.zoom(l, s, st, a, b));
                }
                case 12 -> {
                    int f = odd(pick(4));
                    due("coat(" + l + ", " + s + ", " + f + ")", x.coat(l, s, f), y.coat(l, s, f));
                }
                case 13 -> due("undo(" + l + ")", x.undo(l), y.undo(l));
                case 14 -> {
                    int m = odd(pick(1 + y.moves.size()));
                    if (r.nextInt(2) == 0) due("branch(" + m + ")", x.branch(m), y.branch(m));
                }
                case 15 -> {
                    int b = lens();
                    due("merge(" + l + ", " + b + ")", x.merge(l, b), y.merge(l, b));
                }
                case 16 -> {
                    int b = lens();
                    due("same(" + l + ", " + b + ")", x.same(l, b) ? 1 : 0, y.same(l, b) ? 1 : 0);
                }
                case 17 -> {
                    int w = odd(pick(5));
                    due("told(" + l + ", " + w + ")", x.told(l, w), y.toldOf(l, w));
                }
                case 18 -> {
                    int sort = odd(pick(7));
                    if (sort > 3 && r.nextInt(12) != 0) s = NONE;
                    due("datum(" + l + ", " + s + ", " + sort + ")", x.datum(l, s, sort), y.datum(l, s, sort));
                    fraction();
                    due("how(" + l + ", " + s + ", " + sort + ")", x.how(l, s, sort), y.how(l, s, sort));
                }
                case 19 -> {
                    int m = odd(pick(1 + y.moves.size()));
                    for (int w = -1; w < 6; w++) due("move(" + m + ", " + w + ")", x.move(m, w), y.move(m, w));
                }
                case 20, 21, 22 -> {
                    int st = odd(pick(4)), w = odd(pick(3));
                    if (r.nextInt(3) == 0 && y.vLens != NONE) l = y.vLens;
                    due("view(" + l + ", " + st + ", " + w + ")", x.view(l, st, w), y.view(l, st, w));
                }
                case 23, 24 -> {
                    int w = odd(pick(13));
                    due("first(" + w + ")", x.first(w), y.first(w));
                    fraction();
                }
                case 25 -> {
                    int sort = odd(pick(3));
                    due("worked(" + v + ", " + sort + ")", x.worked(v, sort), y.worked(v, sort));
                    fraction();
                }
                case 26 -> {
                    int w = odd(pick(6));
                    due("ray(" + v + ", " + w + ")", x.ray(v, w), y.ray(v, w));
                    fraction();
                }
                case 27, 28 -> {
                    int w = odd(pick(7));
                    if (r.nextInt(3) == 0) v = NONE;
                    due("term(" + v + ", " + w + ")", x.term(v, w), y.term(v, w));
                    fraction();
                }
                case 29 -> {
                    int j = y.vLens == NONE ? 1 : surface(y.vLens), w = odd(pick(2)), i = Math.min(v, j), k = Math.max(v, j);
                    if (r.nextInt(12) == 0) i = k;
                    due("ghost(" + i + ", " + k + ", " + w + ")", x.ghost(i, k, w), y.ghost(i, k, w));
                    fraction();
                }
                case 30 -> {
                    due("share(" + v + ")", x.share(v), y.share(v));
                    fraction();
                }
                case 31 -> {
                    long a = up(9), b = down(5), c = plus(9), d = down(5);
                    int part = odd(pick(2));
                    due("beam(" + a + ", " + b + ", " + c + ", " + d + ", " + part + ")", x.beam(a, b, c, d, part), y.beam(a, b, c, d, part));
                    fraction();
                    due("stable()", x.stable(), y.stable());
                    fraction();
                }
                case 32, 33, 34 -> {
                    double[] q = new double[4];
                    for (int i = 0; i < 4; i++) {
                        q[i] = switch (r.nextInt(20)) {
                            case 0 -> Double.NaN;
                            case 1 -> r.nextBoolean() ? 1000000.0 : -1000000.0;
                            case 2 -> r.nextBoolean() ? Double.POSITIVE_INFINITY : -0.0;
                            case 3 -> (r.nextDouble() - 0.5) * 2.0E6;
                            case 4 -> Math.scalb(r.nextDouble(), -r.nextInt(1074));
                            case 5, 6, 7, 8 -> 0.0;
                            default -> (r.nextDouble() - 0.5) * 3.0;
                        };
                    }
                    due("trace(" + Arrays.toString(q) + ")", x.trace(q[0], q[1], q[2], q[3]), y.trace(q[0], q[1], q[2], q[3]));
                    marks();
                }
                case 35 -> {
                    int g = odd(1 + pick(6));
                    double fx = r.nextDouble() - 0.5, fy = r.nextInt(3) == 0 ? 0.0 : r.nextDouble();
                    due("spot(" + g + ", " + fx + ", " + fy + ")", x.spot(g, fx, fy), y.spot(g, fx, fy));
                    spreads();
                }
                case 36, 37 -> {
                    feed(text());
                    int k = odd(pick(4));
                    due("merit(" + k + ")", x.merit(k), y.merit(k));
                }
                case 38 -> {
                    int k = odd(pick(4));
                    due("value(" + k + ")", x.value(k), y.value(k));
                    fraction();
                }
                case 39 -> {
                    int sort = odd(pick(2));
                    long a = plus(4), b = down(20);
                    due("vary(" + v + ", " + sort + ", " + a + ", " + b + ")", x.vary(v, sort, a, b), y.more(y.variables, 5, v, sort, a, b));
                }
                case 40 -> {
                    int k = odd(pick(4)), n = odd(r.nextInt(3) == 0 ? pick(23) : pick(4));
                    if (y.moves.size() < 300 || r.nextInt(3) == 0) {
                        due("rounds(" + k + ", " + n + ")", x.rounds(k, n), y.rounds(k, n));
                        fraction();
                    }
                }
                case 41 -> {
                    int sort = odd(pick(2));
                    long a = plus(4), b = down(20);
                    due("tolerance(" + v + ", " + sort + ", " + a + ", " + b + ")", x.tolerance(v, sort, a, b), y.more(y.tolerances, 6, v, sort, a, b));
                }
                case 42 -> {
                    int i = odd(pick(4)), side = odd(pick(2)), k = odd(pick(4)), n = odd(r.nextInt(4) == 0 ? pick(62) : pick(5));
                    due("worse(" + i + ", " + side + ", " + k + ")", x.worse(i, side, k), y.worse(i, side, k));
                    fraction();
                    long a = up(900), b = down(3), seed = r.nextLong();
                    due("draws(" + n + ", " + seed + ", " + k + ", " + a + ", " + b + ")", x.draws(n, seed, k, a, b), y.draws(n, seed, k, a, b));
                    fraction();
                    if (r.nextInt(6) == 0) due("forget()", x.forget(), y.forget());
                }
                case 43 -> {
                    int w = odd(pick(9));
                    due("count(" + w + ")", x.count(w), y.count(w));
                    int i = odd(pick(1 + y.disk.length));
                    due("disk(" + i + ")", x.disk(i), y.disk(i));
                }
                case 44 -> {
                    int g = odd(pick(8)), w = odd(pick(3));
                    long a = plus(30), b = down(20);
                    due("glass(" + g + ", " + w + ", " + a + ", " + b + ")", x.glass(g, w, a, b), y.glass(g, w, a, b));
                    int f = odd(pick(4)), n = odd(pick(8));
                    due("layer(" + f + ", " + n + ", " + a + ", " + b + ")", x.layer(f, n, a, b), y.layer(f, n, a, b));
                    if (r.nextInt(6) == 0) due("film(" + f + ")", x.film(f), y.film(f));
                }
                default -> { if (r.nextInt(4) == 0) trouble(); }
            }
        }
        void marks() {
            int m = y.traced == null ? 1 : y.traced.length;
            for (int s = -1; s <= m; s++) {
                for (int w = -1; w < 8; w++) dueD("at(" + s + ", " + w + ")", x.at(s, w), y.at(s, w));
            }
        }
        void spreads() {
            for (int w = -1; w < 7; w++) dueD("spread(" + w + ")", x.spread(w), y.spread(w));
        }
        /** THE DISK is cut or altered; mostly so that the sum is put right again. */
        void trouble() {
            int kind = r.nextInt(6);
            if (kind == 0) {
                int n = odd(pick(24));
                due("crash(" + n + ")", x.crash(n), y.crash(n));
            } else if (kind == 1 || y.disk.length == 0) {
                due("open()", x.open(), y.open());
            } else {
                int move = r.nextInt(4) == 0 ? r.nextInt(y.moves.size()) : y.moves.size() - 1 - r.nextInt(Math.min(4, y.moves.size()));
                int[] was = Arrays.copyOfRange(y.disk, move * 23, move * 23 + 23), now = was.clone();
                int place = r.nextInt(3) == 0 ? r.nextInt(21) : r.nextInt(8);
                place = place == 5 ? 12 : place == 6 ? 20 : place == 7 ? 5 : place;
                now[place] = r.nextInt(3) == 0 ? r.nextInt(256) : r.nextInt(5) == 0 ? 255 : (was[place] + r.nextInt(5) - 2) & 255;
                if (r.nextInt(4) == 0) now[r.nextInt(5)] = r.nextInt(12);
                int sum = 0;
                for (int i = 0; i < 21; i++) sum = (31 * sum + now[i]) % 65536;
                if (r.nextInt(6) > 0) {
                    now[21] = sum / 256;
                    now[22] = sum % 256;
                }
                for (int i = 0; i < 23; i++) {
                    int at = move * 23 + i, bits = was[i] ^ now[i];
                    if (bits != 0 || r.nextInt(30) == 0) due("alter(" + at + ", " + bits + ")", x.alter(at, bits), y.alter(at, bits));
                }
                due("alter(" + y.disk.length + ", 1)", x.alter(y.disk.length, 1), y.alter(y.disk.length, 1));
                if (r.nextInt(4) > 0) due("open()", x.open(), y.open());
            }
            for (int w = 0; w < 9; w++) due("count(" + w + ")", x.count(w), y.count(w));
            if (y.traced == null) marks();
            spreads();
        }
        void setUp() {
            for (int g = 0; g < 8; g++) {
                if (r.nextInt(3) == 0) continue;
                for (int w = 0; w < 3; w++) {
                    int a = 140 + r.nextInt(40);
                    if (g > 0 || r.nextInt(10) == 0) due("glass(..)", x.glass(g, w, a, 100), y.glass(g, w, a, 100));
                }
            }
            int m = 1 + r.nextInt(r.nextInt(4) == 0 ? 10 : 4);
            due("lens(" + m + ")", x.lens(m), y.lens(m));
            for (int s = 0; s < m; s++) {
                int c = r.nextInt(7) - 3, t = r.nextInt(6), g = r.nextInt(3) == 0 ? 0 : r.nextInt(9) == 0 ? 8 : 1 + r.nextInt(7);
                due("set(0, " + s + ", 0, " + c + ", 60)", x.set(0, s, 0, c, 60), y.set(0, s, 0, c, 60));
                due("set(0, " + s + ", 1, " + t + ", 2)", x.set(0, s, 1, t, 2), y.set(0, s, 1, t, 2));
                due("behind(0, " + s + ", " + g + ")", x.behind(0, s, g), y.behind(0, s, g));
            }
            int stuffed = r.nextInt(6) == 0 ? 380 + r.nextInt(20) : 0;
            while (y.moves.size() < stuffed) {
                check("stop(0, 0)", x.stop(0, 0), y.stop(0, 0));
            }
            if (r.nextBoolean()) due("set(0, -1, 5, 1, 10)", x.set(0, -1, 5, 1, 10), y.set(0, -1, 5, 1, 10));
            due("view(0, 0, 0)", x.view(0, 0, 0), y.view(0, 0, 0));
            if (r.nextBoolean()) {
                feed("focal = " + (10 + r.nextInt(80)) + "; gap 0 > 2 by 3" + (r.nextBoolean() ? ";sum 0 = 0" : ""));
                due("merit(0)", x.merit(0), y.merit(0));
                for (int i = r.nextInt(4); i >= 0; i--) {
                    int at = r.nextInt(m), sort = r.nextInt(2), b = sort == 0 ? 60 + r.nextInt(900) : 1 + r.nextInt(3);
                    due("vary(" + at + ", " + sort + ", 1, " + b + ")", x.vary(at, sort, 1, b), y.more(y.variables, 5, at, sort, 1, b));
                }
                int n = 1 + r.nextInt(20);
                due("rounds(0, " + n + ")", x.rounds(0, n), y.rounds(0, n));
            }
        }
    }

    public static void main(String[] args) {
        int runs = args.length > 0 ? Integer.parseInt(args[0]) : 4000;
        long seed = args.length > 1 ? Long.parseLong(args[1]) : 1;
        Map<String, Integer> seenAnswers = new TreeMap<>();
        int bad = 0;
        for (int i = 0; i < runs && bad < 3; i++) {
            Run run = new Run(seed + i, seenAnswers);
            if (run.r.nextInt(8) > 0) run.setUp();
            int most = run.r.nextInt(4) == 0 ? 500 : 120;
            while (run.calls < most && run.wrong == 0) run.step();
            if (run.wrong > 0) {
                bad++;
                System.out.println("seed " + (seed + i) + " went wrong");
            }
        }
        if (args.length > 2) seenAnswers.forEach((k, n) -> System.out.println(k + ": " + n));
        System.out.println(runs + " random runs, " + bad + " wrong");
        System.exit(bad > 0 ? 1 : 0);
    }
}
