import java.util.Arrays;

/**
 * An optical house: lenses as trees of moves, sums near the axis in exact fractions, rays in doubles,
 * merits as texts, and a disk that may be cut. Promises 1 to 50 of its document.
 */
public final class OpticalHouse {
    public static final int NONE = -1, BAD = -2, NO = -3, FULL = -4;

    private static final int MOST_SURFACES = 10;
    private static final int MOST_LENSES = 8;
    private static final int MOST_GLASSES = 8;
    private static final int MIRROR = 8;
    private static final int WAVES = 3;
    private static final int STATES = 4;
    private static final int MOST_FILMS = 4;
    private static final int MOST_MERITS = 4;
    private static final int MOST_TAPE = 400;
    private static final int FED = 20;
    // the signs of Fraction.sum()
    private static final int PLUS = 1;
    private static final int LESS = -1;

    private final byte[] tape = new byte[MOST_TAPE];
    private int taped = 0;
    private final Fraction fraction = new Fraction();
    private final Fraction asked = new Fraction();
    private final Fraction other = new Fraction();
    private final Merit[] merits = new Merit[MOST_MERITS];
    private Merit blankMerit = new Merit();
    private final Tree tree;
    private final Near near;
    private final Terms terms;
    private final Ghosts ghosts;
    private final Search search;
    private final Solid solid = new Solid();
    private final Flight latest = new Flight();
    private final Flight spotter = new Flight();
    private int seen = NONE;

    public OpticalHouse() {
        for (int k = 0; k < MOST_MERITS; k++) {
            merits[k] = new Merit();
        }
        Tree ofMoves = new Tree();
        Near ofAxis = new Near();
        Terms ofThird = new Terms(ofAxis);
        tree = ofMoves;
        near = ofAxis;
        terms = ofThird;
        ghosts = new Ghosts(ofAxis);
        search = new Search(ofMoves, ofAxis, ofThird);
    }

    // ---- THE TAPE, THE FRACTION

    public int feed(int a, int b, int c, int d, int e) {
        if (taped + FED > MOST_TAPE) {
            return FULL;
        }
        tapeNumber(a);
        tapeNumber(b);
        tapeNumber(c);
        tapeNumber(d);
        tapeNumber(e);
        return taped;
    }

    public int cut(int n) {
        if (n < 0 || n > taped) {
            return BAD;
        }
        int gone = taped - n;
        taped = n;
        return gone;
    }

    public long above() {
        return fraction.top;
    }

    public long below() {
        return fraction.bottom;
    }

    // ---- glasses, films

    public int glass(int glass, int wave, long above, long below) {
        if (outside(glass, MOST_GLASSES) || outside(wave, WAVES) || !asked.takeAboveZero(above, below)) {
            return BAD;
        }
        near.glasses[glass * WAVES + wave].like(asked);
        return 1;
    }

    public int film(int film) {
        if (outside(film, MOST_FILMS)) {
            return BAD;
        }
        int had = ghosts.layers[film];
        ghosts.layers[film] = 0;
        return had;
    }

    public int layer(int film, int quarters, long above, long below) {
        if (outside(film, MOST_FILMS) || outside(quarters, Ghosts.MOST_QUARTERS)
                || !asked.takeAboveZero(above, below)) {
            return BAD;
        }
        return ghosts.addLayer(film, quarters, asked);
    }

    // ---- lenses, by moves

    public int lens(int surfaces) {
        if (surfaces < 1 || surfaces > MOST_SURFACES) {
            return BAD;
        }
        int number = tree.lensCount;
        if (number >= MOST_LENSES) {
            return FULL;
        }
        return tree.record(Tree.NEW, number, NONE, surfaces, NONE, 0, 0) == FULL ? FULL : number;
    }

    public int set(int lens, int surface, int sort, long above, long below) {
        if (!tree.fits(Tree.TELL, lens, surface, sort, NONE) || !asked.take(above, below)
                || !tree.allows(Tree.TELL, sort, asked.top)) {
            return BAD;
        }
        return tree.record(Tree.TELL, lens, surface, sort, NONE, asked.top, asked.bottom);
    }

    public int behind(int lens, int surface, int what) {
        if (!tree.fits(Tree.BEHIND, lens, surface, what, NONE)) {
            return BAD;
        }
        return tree.record(Tree.BEHIND, lens, surface, what, NONE, 0, 0);
    }

    public int stop(int lens, int surface) {
        if (!tree.fits(Tree.STOP, lens, surface, NONE, NONE)) {
            return BAD;
        }
        return tree.record(Tree.STOP, lens, surface, NONE, NONE, 0, 0);
    }

    public int pick(int lens, int surface, int sort, int from, long above, long below) {
        if (!tree.fits(Tree.PICK, lens, surface, sort, from) || !asked.take(above, below)) {
            return BAD;
        }
        return tree.record(Tree.PICK, lens, surface, sort, from, asked.top, asked.bottom);
    }

    public int solve(int lens, int surface, int sort, long above, long below) {
        if (!tree.fits(Tree.SOLVE, lens, surface, sort, NONE) || !asked.take(above, below)) {
            return BAD;
        }
        return tree.record(Tree.SOLVE, lens, surface, sort, NONE, asked.top, asked.bottom);
    }

    public int zoom(int lens, int surface, int state, long above, long below) {
        if (!tree.fits(Tree.ZOOM, lens, surface, state, NONE) || !asked.take(above, below)) {
            return BAD;
        }
        return tree.record(Tree.ZOOM, lens, surface, state, NONE, asked.top, asked.bottom);
    }

    public int coat(int lens, int surface, int film) {
        if (!tree.fits(Tree.COAT, lens, surface, film, NONE)) {
            return BAD;
        }
        return tree.record(Tree.COAT, lens, surface, film, NONE, 0, 0);
    }

    public int undo(int lens) {
        if (outside(lens, tree.lensCount)) {
            return BAD;
        }
        int before = tree.before[tree.lenses[lens].head];
        if (before == NONE) {
            return NO;
        }
        return tree.record(Tree.HEAD, lens, NONE, NONE, NONE, before, 0);
    }

    public int branch(int move) {
        if (!tree.canBeHead(move)) {
            return BAD;
        }
        int number = tree.lensCount;
        if (number >= MOST_LENSES) {
            return FULL;
        }
        return tree.record(Tree.HEAD, number, NONE, NONE, NONE, move, 0) == FULL ? FULL : number;
    }

    public int merge(int first, int second) {
        if (outside(first, tree.lensCount) || outside(second, tree.lensCount)) {
            return BAD;
        }
        return tree.join(first, second);
    }

    public boolean same(int a, int b) {
        if (outside(a, tree.lensCount) || outside(b, tree.lensCount)) {
            return false;
        }
        return tree.lenses[a].alike(tree.lenses[b]);
    }

    public int told(int lens, int what) {
        if (outside(lens, tree.lensCount)) {
            return BAD;
        }
        Lens shown = tree.lenses[lens];
        switch (what) {
            case 0:
                return shown.surfaces;
            case 1:
                return shown.head;
            case 2:
                return shown.stop;
            case 3:
                return tree.collectWay(shown.head);
            case 4:
                return shown.mirrors();
            default:
                return BAD;
        }
    }

    public int datum(int lens, int surface, int sort) {
        if (!tree.fits(Tree.TELL, lens, surface, sort, NONE)) {
            return BAD;
        }
        int slot = Lens.slot(surface, sort);
        Lens shown = tree.lenses[lens];
        asked.put(shown.tops[slot], shown.bottoms[slot]);
        return answer(asked);
    }

    public int how(int lens, int surface, int sort) {
        if (surface == NONE || !tree.fits(Tree.TELL, lens, surface, sort, NONE)) {
            return BAD;
        }
        return tree.lenses[lens].ways[Lens.slot(surface, sort)];
    }

    public int move(int move, int what) {
        if (outside(move, tree.moves)) {
            return BAD;
        }
        switch (what) {
            case 0:
                return tree.kinds[move];
            case 1:
                return tree.lensOf[move];
            case 2:
                return tree.before[move];
            case 3:
                return tree.surfaceOf[move];
            case 4:
                return tree.whatOf[move];
            default:
                return BAD;
        }
    }

    // ---- the view, exact

    public int view(int lens, int state, int wave) {
        if (outside(lens, tree.lensCount) || outside(state, STATES) || outside(wave, WAVES)) {
            return BAD;
        }
        if (lens != seen) {
            search.forgetAll();
        }
        seen = lens;
        near.state = state;
        near.wave = wave;
        return 1;
    }

    public int first(int what) {
        if (outside(what, Terms.FIRSTS) || !look()) {
            return BAD;
        }
        terms.firstOf(what, asked);
        return answer(asked);
    }

    public int worked(int surface, int sort) {
        if (!isSeen(surface) || outside(sort, 3)) {
            return BAD;
        }
        look();
        return answer(near.workedRow(sort)[surface]);
    }

    public int ray(int surface, int what) {
        if (!isSeen(surface) || outside(what, 6)) {
            return BAD;
        }
        look();
        int ray = what < 3 ? Near.MARGINAL : Near.CHIEF;
        int part = what % 3;
        return answer(part == 0 ? near.heightOf(ray, surface) : near.angleOf(ray, surface + part - 1));
    }

    public int term(int surface, int term) {
        if (outside(term, Terms.TERMS) || surface != NONE && !isSeen(surface) || !look()) {
            return BAD;
        }
        terms.prepare();
        if (surface == NONE) {
            terms.operand(Terms.SUM, term, asked);
        } else {
            terms.termOf(surface, term, asked);
        }
        return answer(asked);
    }

    public int ghost(int i, int j, int what) {
        if (!isSeen(i) || !isSeen(j) || i >= j || outside(what, 2)) {
            return BAD;
        }
        Lens lens = tree.lenses[seen];
        if (lens.media[i] == MIRROR || lens.media[j] == MIRROR) {
            return BAD;
        }
        look();
        if (what == 0) {
            ghosts.placeOf(i, j, asked);
        } else {
            ghosts.powerOf(i, j, asked);
        }
        return answer(asked);
    }

    public int share(int surface) {
        if (!isSeen(surface)) {
            return BAD;
        }
        look();
        ghosts.shareOf(surface, asked);
        return answer(asked);
    }

    public int beam(long xAbove, long xBelow, long zAbove, long zBelow, int part) {
        if (outside(part, 2) || !asked.take(xAbove, xBelow) || !other.takeAboveZero(zAbove, zBelow) || !look()) {
            return BAD;
        }
        terms.beamOf(asked, other, part);
        return answer(asked);
    }

    public int stable() {
        if (!look()) {
            return BAD;
        }
        terms.firstOf(12, asked);
        if (asked.isLost()) {
            return NO;
        }
        other.put(2, 1);
        boolean under = asked.against(other) < 0;
        other.put(-2, 1);
        return under && asked.against(other) > 0 ? 1 : 0;
    }

    // ---- the view, in doubles

    public int trace(double px, double py, double fx, double fy) {
        if (seen == NONE) {
            return BAD;
        }
        return harden() ? latest.fly(solid, px, py, fx, fy) : NO;
    }

    public double at(int surface, int what) {
        return latest.markOf(surface, what);
    }

    public int spot(int size, double fx, double fy) {
        if (seen == NONE || size < 1 || size > 6) {
            return BAD;
        }
        return harden() ? spotter.flyAll(solid, size, fx, fy) : NO;
    }

    public double spread(int what) {
        return spotter.spreadOf(what);
    }

    // ---- merits, rounds, tolerances

    public int merit(int k) {
        if (outside(k, MOST_MERITS)) {
            return BAD;
        }
        int rows = blankMerit.read(tape, taped);
        taped = 0;
        if (rows >= 0) {
            Merit old = merits[k];
            merits[k] = blankMerit;
            blankMerit = old;
        }
        return rows;
    }

    public int value(int k) {
        if (outside(k, MOST_MERITS) || seen == NONE) {
            return BAD;
        }
        search.worth(merits[k], tree.lenses[seen], asked);
        return answer(asked);
    }

    public int vary(int surface, int sort, long above, long below) {
        if (!isSeen(surface) || outside(sort, 2) || !asked.takeAboveZero(above, below)) {
            return BAD;
        }
        return search.variables.add(surface, sort, asked);
    }

    public int rounds(int k, int n) {
        if (outside(k, MOST_MERITS) || n < 0 || n > 20 || seen == NONE) {
            return BAD;
        }
        search.worth(merits[k], tree.lenses[seen], search.best);
        if (search.best.isLost()) {
            return NO;
        }
        int halvings = 0;
        for (int gone = 0; gone < n; gone++) {
            int moved = search.goRound(merits[k], seen, halvings);
            if (moved == 0) {
                halvings++;
            }
            if (moved == FULL || halvings == Search.MOST_HALVINGS) {
                return gone + 1;
            }
        }
        return n;
    }

    public int tolerance(int surface, int sort, long above, long below) {
        if (!isSeen(surface) || outside(sort, 2) || !asked.takeAboveZero(above, below)) {
            return BAD;
        }
        return search.tolerances.add(surface, sort, asked);
    }

    public int worse(int tolerance, int side, int k) {
        if (seen == NONE || outside(tolerance, search.tolerances.number) || outside(side, 2)
                || outside(k, MOST_MERITS)) {
            return BAD;
        }
        search.worseOf(tolerance, side, merits[k], tree.lenses[seen], asked);
        return answer(asked);
    }

    public int draws(int n, long seed, int k, long above, long below) {
        if (seen == NONE || n < 0 || n > 60 || outside(k, MOST_MERITS) || !asked.take(above, below)) {
            return BAD;
        }
        return search.draw(n, seed, merits[k], tree.lenses[seen], asked);
    }

    public int forget() {
        return search.forgetAll();
    }

    // ---- the disk

    public int disk(int i) {
        return outside(i, tree.bytes()) ? BAD : tree.disk[i] & 255;
    }

    public int alter(int i, int bits) {
        if (outside(i, tree.bytes()) || outside(bits, 256)) {
            return BAD;
        }
        int turned = (tree.disk[i] & 255) ^ bits;
        tree.disk[i] = (byte) turned;
        return turned;
    }

    public int crash(int n) {
        if (n < 0 || n > Tree.BYTES || tree.moves == 0) {
            return BAD;
        }
        return openFrom(tree.bytes() - Tree.BYTES + n);
    }

    public int open() {
        return openFrom(tree.bytes());
    }

    public int count(int what) {
        switch (what) {
            case 0:
                return tree.lensCount;
            case 1:
                return tree.moves;
            case 2:
                return tree.bytes();
            case 3:
                return search.variables.number;
            case 4:
                return search.tolerances.number;
            case 5:
                return taped;
            case 6:
                return seen;
            case 7:
                return seen == NONE ? 0 : near.state;
            case 8:
                return seen == NONE ? 0 : near.wave;
            default:
                return BAD;
        }
    }

    // ---- what the calls share

    private static boolean outside(int number, int end) {
        return number < 0 || number >= end;
    }

    private void tapeNumber(int number) {
        for (int shift = 24; shift >= 0; shift -= 8) {
            tape[taped] = (byte) (number >>> shift);
            taped++;
        }
    }

    /** THE FRACTION is 0 / 1 where the one told is LOST. */
    private int answer(Fraction told) {
        if (told.isLost()) {
            fraction.put(0, 1);
            return 0;
        }
        fraction.like(told);
        return 1;
    }

    private boolean isSeen(int surface) {
        return seen != NONE && !outside(surface, tree.lenses[seen].surfaces);
    }

    /** Works the VIEW anew; the moves, glasses and states may have changed since the last call. */
    private boolean look() {
        if (seen == NONE) {
            return false;
        }
        near.work(tree.lenses[seen]);
        near.carry();
        return true;
    }

    private boolean harden() {
        look();
        terms.firstOf(Terms.IMAGE, asked);
        return solid.load(near, asked);
    }

    private int openFrom(int bytes) {
        seen = NONE;
        search.forgetAll();
        latest.forgetRay();
        spotter.forgetRay();
        return tree.reopen(bytes);
    }

    /** A fraction in lowest terms that is written over in place, so that no call makes objects; LOST: bottom 0. */
    private static final class Fraction {
        static final long FAR = 1L << 62;
        static final long TOLD = 1L << 40;
        static final long SMALL = 1L << 31;
        // Euclid needs fewer than 95 steps below 2^63
        static final int STEPS = 200;

        long top = 0;
        long bottom = 1;

        static Fraction[] row(int length) {
            Fraction[] made = new Fraction[length];
            for (int i = 0; i < length; i++) {
                made[i] = new Fraction();
            }
            return made;
        }

        /** Always above 0, so that it may divide: of 0 and 0, which only LOST brings here, it is 1. */
        static long gcd(long a, long b) {
            long x = a < 0 ? -a : a;
            long y = b < 0 ? -b : b;
            for (int i = 0; i < STEPS && y != 0; i++) {
                long rest = x % y;
                x = y;
                y = rest;
            }
            return x == 0 ? 1 : x;
        }

        /** The product, or FAR where it is 2^62 or more without its sign. */
        static long times(long a, long b) {
            // most numbers are small, and a division is dear
            if (a < SMALL && a > -SMALL && b < SMALL && b > -SMALL) {
                return a * b;
            }
            if (b == 0) {
                return 0;
            }
            long most = (FAR - 1) / (b < 0 ? -b : b);
            return a > most || a < -most ? FAR : a * b;
        }

        boolean isLost() {
            return bottom == 0;
        }

        boolean isZero() {
            return bottom != 0 && top == 0;
        }

        void lose() {
            top = 0;
            bottom = 0;
        }

        void put(long above, long below) {
            top = above;
            bottom = below;
        }

        void like(Fraction x) {
            top = x.top;
            bottom = x.bottom;
        }

        /** A fraction as a caller tells it; false, and nothing taken, if that is BAD. */
        boolean take(long above, long below) {
            if (below <= 0 || below >= TOLD || above <= -TOLD || above >= TOLD) {
                return false;
            }
            long common = gcd(above, below);
            put(above / common, below / common);
            return true;
        }

        boolean takeAboveZero(long above, long below) {
            return above > 0 && take(above, below);
        }

        void turn() {
            top = -top;
        }

        void turned(Fraction x) {
            top = -x.top;
            bottom = x.bottom;
        }

        void product(Fraction x, Fraction y) {
            long e = gcd(x.top, y.bottom);
            long f = gcd(y.top, x.bottom);
            keep(times(x.top / e, y.top / f), times(x.bottom / f, y.bottom / e));
        }

        void quotient(Fraction x, Fraction y) {
            long over = y.top < 0 ? -y.bottom : y.bottom;
            long under = y.top < 0 ? -y.top : y.top;
            long e = gcd(x.top, under);
            long f = gcd(over, x.bottom);
            keep(times(x.top / e, over / f), times(x.bottom / f, under / e));
        }

        /** The SUM of x and y, the sign being PLUS; x LESS y. One method for both keeps the calls flat. */
        void sum(Fraction x, int sign, Fraction y) {
            long g = gcd(x.bottom, y.bottom);
            long left = times(x.top, y.bottom / g);
            long right = times(sign * y.top, x.bottom / g);
            long under = times(x.bottom, y.bottom / g);
            long over = left + right;
            if (left == FAR || right == FAR || over >= FAR || over <= -FAR) {
                lose();
                return;
            }
            long common = gcd(over, under);
            keep(over / common, under == FAR ? FAR : under / common);
        }

        /** LOST is 0 / 0, which goes through the sums above as itself; a quotient by 0 comes with under 0, too. */
        private void keep(long over, long under) {
            boolean lost = over == FAR || under == FAR || under == 0;
            top = lost ? 0 : over;
            bottom = lost ? 0 : under;
        }

        /** Below 0, 0 or above 0, by continued fractions: cross products would not fit in a long. Both are there. */
        int against(Fraction x) {
            long a = top;
            long b = bottom;
            long c = x.top;
            long d = x.bottom;
            int sign = 1;
            for (int i = 0; i < STEPS && b != 0 && d != 0; i++) {
                long p = Math.floorDiv(a, b);
                long q = Math.floorDiv(c, d);
                if (p != q) {
                    return p < q ? -sign : sign;
                }
                long restA = a - p * b;
                long restC = c - q * d;
                if (restA == 0 || restC == 0) {
                    return restA == restC ? 0 : restA == 0 ? -sign : sign;
                }
                a = b;
                b = restA;
                c = d;
                d = restC;
                sign = -sign;
            }
            return 0;
        }

        double asDouble() {
            return bottom == 0 ? 0.0 : (double) top / (double) bottom;
        }
    }

    /** What a WAY makes of a LENS: a row of slots for all that is told by fractions, and what is told by numbers. */
    private static final class Lens {
        static final int SORTS = 4;
        static final int OBJECT = 40;
        static final int FIELD = 41;
        static final int BEAM = 42;
        static final int ZOOMS = 43;
        static final int SLOTS = 73;
        static final int TOLD = 0;
        static final int SOLVED = 20;

        int surfaces = 0;
        int stop = 0;
        int head = NONE;
        final long[] tops = new long[SLOTS];
        final long[] bottoms = new long[SLOTS];
        final int[] ways = new int[SLOTS];
        final int[] media = new int[MOST_SURFACES];
        final int[] coats = new int[MOST_SURFACES];

        static int slot(int surface, int sort) {
            return sort < SORTS ? surface * SORTS + sort : OBJECT + sort - SORTS;
        }

        static int zoomSlot(int surface, int state) {
            return ZOOMS + surface * (STATES - 1) + state - 1;
        }

        void clear(int number) {
            surfaces = number;
            stop = 0;
            Arrays.fill(tops, 0);
            Arrays.fill(bottoms, 1);
            Arrays.fill(ways, TOLD);
            for (int i = ZOOMS; i < SLOTS; i++) {
                ways[i] = NONE;
            }
            Arrays.fill(media, 0);
            Arrays.fill(coats, NONE);
            tops[BEAM] = 1;
        }

        void tell(int slot, int way, long top, long bottom) {
            ways[slot] = way;
            tops[slot] = top;
            bottoms[slot] = bottom;
        }

        void copy(Lens from) {
            surfaces = from.surfaces;
            stop = from.stop;
            head = from.head;
            System.arraycopy(from.tops, 0, tops, 0, SLOTS);
            System.arraycopy(from.bottoms, 0, bottoms, 0, SLOTS);
            System.arraycopy(from.ways, 0, ways, 0, SLOTS);
            System.arraycopy(from.media, 0, media, 0, MOST_SURFACES);
            System.arraycopy(from.coats, 0, coats, 0, MOST_SURFACES);
        }

        /** Slots and rows behind the last SURFACE are as clear() left them, so whole rows may be compared. */
        boolean alike(Lens x) {
            if (surfaces != x.surfaces || stop != x.stop) {
                return false;
            }
            for (int i = 0; i < SLOTS; i++) {
                if (ways[i] != x.ways[i] || tops[i] != x.tops[i] || bottoms[i] != x.bottoms[i]) {
                    return false;
                }
            }
            for (int i = 0; i < MOST_SURFACES; i++) {
                if (media[i] != x.media[i] || coats[i] != x.coats[i]) {
                    return false;
                }
            }
            return true;
        }

        int mirrors() {
            int found = 0;
            for (int i = 0; i < surfaces; i++) {
                if (media[i] == MIRROR) {
                    found++;
                }
            }
            return found;
        }
    }

    /** All MOVES with THE DISK, and the LENSES that they make. */
    private static final class Tree {
        static final int NEW = 0;
        static final int TELL = 1;
        static final int BEHIND = 2;
        static final int STOP = 3;
        static final int PICK = 4;
        static final int SOLVE = 5;
        static final int ZOOM = 6;
        static final int COAT = 7;
        static final int HEAD = 8;
        static final int MOST = 400;
        static final int BYTES = 23;
        static final int SUMMED = 21;
        static final int TOPICS = 94;
        static final int STOP_TOPIC = 93;

        final int[] kinds = new int[MOST];
        final int[] lensOf = new int[MOST];
        final int[] surfaceOf = new int[MOST];
        final int[] whatOf = new int[MOST];
        final int[] aheadOf = new int[MOST];
        final int[] before = new int[MOST];
        final long[] tops = new long[MOST];
        final long[] bottoms = new long[MOST];
        final byte[] disk = new byte[MOST * BYTES];
        final Lens[] lenses = new Lens[MOST_LENSES];
        final int[] way = new int[MOST];
        final int[] firstLast = new int[TOPICS];
        final int[] secondLast = new int[TOPICS];
        int moves = 0;
        int lensCount = 0;

        Tree() {
            for (int i = 0; i < MOST_LENSES; i++) {
                lenses[i] = new Lens();
            }
        }

        int bytes() {
            return moves * BYTES;
        }

        /** Whether the numbers of a MOVE of kinds 1 to 7 could be now. */
        boolean fits(int kind, int lens, int surface, int what, int ahead) {
            if (outside(lens, lensCount)) {
                return false;
            }
            boolean onSurface = !outside(surface, lenses[lens].surfaces);
            if (kind == PICK) {
                return onSurface && !outside(what, 3) && !outside(ahead, surface);
            }
            if (ahead != NONE) {
                return false;
            }
            switch (kind) {
                case TELL:
                    return onSurface ? !outside(what, 4) : surface == NONE && what >= 4 && what <= 6;
                case BEHIND:
                    return onSurface && what >= 0 && what <= MIRROR;
                case STOP:
                    return onSurface && what == NONE;
                case SOLVE:
                    return onSurface && !outside(what, 2);
                case ZOOM:
                    return onSurface && what >= 1 && what < STATES;
                case COAT:
                    return onSurface && what >= NONE && what < MOST_FILMS;
                default:
                    return false;
            }
        }

        /** HALF and OBJECT are never told below 0. */
        boolean allows(int kind, int what, long top) {
            return kind != TELL || what != 3 && what != 4 || top >= 0;
        }

        boolean canBeHead(long move) {
            return move >= 0 && move < moves && kinds[(int) move] != HEAD;
        }

        /** A MOVE whose numbers the caller has looked at: its number, or FULL. */
        int record(int kind, int lens, int surface, int what, int ahead, long top, long bottom) {
            int i = moves;
            if (i >= MOST) {
                return FULL;
            }
            kinds[i] = kind;
            lensOf[i] = lens;
            surfaceOf[i] = surface;
            whatOf[i] = what;
            aheadOf[i] = ahead;
            tops[i] = top;
            bottoms[i] = bottom;
            writeBytes(i);
            perform(i);
            return i;
        }

        private void writeBytes(int i) {
            int start = i * BYTES;
            disk[start] = (byte) kinds[i];
            disk[start + 1] = (byte) lensOf[i];
            disk[start + 2] = (byte) surfaceOf[i];
            disk[start + 3] = (byte) whatOf[i];
            disk[start + 4] = (byte) aheadOf[i];
            for (int b = 0; b < 8; b++) {
                disk[start + 5 + b] = (byte) (tops[i] >>> 56 - 8 * b);
                disk[start + 13 + b] = (byte) (bottoms[i] >>> 56 - 8 * b);
            }
            int sum = sumOfBytes(start);
            disk[start + SUMMED] = (byte) (sum >>> 8);
            disk[start + SUMMED + 1] = (byte) sum;
        }

        private int sumOfBytes(int start) {
            int sum = 0;
            for (int b = 0; b < SUMMED; b++) {
                sum = sum * 31 + (disk[start + b] & 255) & 65535;
            }
            return sum;
        }

        private void perform(int i) {
            int number = lensOf[i];
            Lens lens = lenses[number];
            moves = i + 1;
            if (number == lensCount) {
                lensCount++;
            }
            if (kinds[i] == HEAD) {
                before[i] = (int) tops[i];
                rebuild(lens, before[i]);
                return;
            }
            before[i] = kinds[i] == NEW ? NONE : lens.head;
            apply(lens, i);
            lens.head = i;
        }

        private void rebuild(Lens lens, int head) {
            int length = collectWay(head);
            for (int i = length - 1; i >= 0; i--) {
                apply(lens, way[i]);
            }
            lens.head = head;
        }

        /** The WAY of a HEAD, the latest MOVE first: how many. */
        int collectWay(int head) {
            int length = 0;
            int move = head;
            while (length < MOST && move >= 0 && move < MOST) {
                way[length] = move;
                length++;
                move = before[move];
            }
            return length;
        }

        private void apply(Lens lens, int i) {
            int surface = surfaceOf[i];
            int what = whatOf[i];
            switch (kinds[i]) {
                case NEW:
                    lens.clear(what);
                    break;
                case TELL:
                    lens.tell(Lens.slot(surface, what), Lens.TOLD, tops[i], bottoms[i]);
                    break;
                case BEHIND:
                    lens.media[surface] = what;
                    break;
                case STOP:
                    lens.stop = surface;
                    break;
                case PICK:
                    lens.tell(Lens.slot(surface, what), 1 + aheadOf[i], tops[i], bottoms[i]);
                    break;
                case SOLVE:
                    lens.tell(Lens.slot(surface, what), Lens.SOLVED, tops[i], bottoms[i]);
                    break;
                case ZOOM:
                    lens.tell(Lens.zoomSlot(surface, what), Lens.TOLD, tops[i], bottoms[i]);
                    break;
                case COAT:
                    lens.coats[surface] = what;
                    break;
                default:
                    break;
            }
        }

        /** OPENING from so many bytes. */
        int reopen(int bytes) {
            moves = 0;
            lensCount = 0;
            for (int i = 0; i < MOST && (i + 1) * BYTES <= bytes; i++) {
                if (!readBytes(i)) {
                    break;
                }
                perform(i);
            }
            return moves;
        }

        private boolean readBytes(int i) {
            int start = i * BYTES;
            int sum = (disk[start + SUMMED] & 255) << 8 | disk[start + SUMMED + 1] & 255;
            if (sum != sumOfBytes(start)) {
                return false;
            }
            kinds[i] = disk[start] & 255;
            lensOf[i] = disk[start + 1] & 255;
            surfaceOf[i] = numberOf(disk[start + 2]);
            whatOf[i] = numberOf(disk[start + 3]);
            aheadOf[i] = numberOf(disk[start + 4]);
            tops[i] = longOf(start + 5);
            bottoms[i] = longOf(start + 13);
            return couldBe(i);
        }

        private static int numberOf(byte b) {
            return b == NONE ? NONE : b & 255;
        }

        private long longOf(int start) {
            long number = 0;
            for (int b = 0; b < 8; b++) {
                number = number << 8 | disk[start + b] & 255;
            }
            return number;
        }

        private boolean couldBe(int i) {
            int kind = kinds[i];
            int what = whatOf[i];
            if (kind == NEW || kind == HEAD) {
                return couldBeHead(i);
            }
            if (!fits(kind, lensOf[i], surfaceOf[i], what, aheadOf[i])) {
                return false;
            }
            if (kind == BEHIND || kind == STOP || kind == COAT) {
                return tops[i] == 0 && bottoms[i] == 0;
            }
            return bottoms[i] > 0 && bottoms[i] < Fraction.FAR && tops[i] > -Fraction.FAR && tops[i] < Fraction.FAR
                    && Fraction.gcd(tops[i], bottoms[i]) == 1 && allows(kind, what, tops[i]);
        }

        private boolean couldBeHead(int i) {
            int lens = lensOf[i];
            if (lens >= MOST_LENSES || surfaceOf[i] != NONE || aheadOf[i] != NONE || bottoms[i] != 0) {
                return false;
            }
            if (kinds[i] == NEW) {
                return lens == lensCount && whatOf[i] >= 1 && whatOf[i] <= MOST_SURFACES && tops[i] == 0;
            }
            return lens <= lensCount && whatOf[i] == NONE && canBeHead(tops[i]);
        }

        /** MERGING: how many MOVES the first LENS got, or what is refused. */
        int join(int first, int second) {
            int parting = partingOf(lenses[first].head, lenses[second].head);
            if (parting == NONE) {
                return NO;
            }
            lastOfTopics(lenses[first].head, parting, firstLast);
            int length = lastOfTopics(lenses[second].head, parting, secondLast);
            int conflicts = 0;
            for (int topic = 0; topic < TOPICS; topic++) {
                if (firstLast[topic] != NONE && secondLast[topic] != NONE
                        && !areAlike(firstLast[topic], secondLast[topic])) {
                    conflicts++;
                }
            }
            if (conflicts > 0) {
                return -10 - conflicts;
            }
            if (moves + length > MOST) {
                return FULL;
            }
            collectWay(lenses[second].head);
            for (int i = length - 1; i >= 0; i--) {
                int j = way[i];
                record(kinds[j], first, surfaceOf[j], whatOf[j], aheadOf[j], tops[j], bottoms[j]);
            }
            return length;
        }

        /** BEFORE is always an earlier MOVE, so the later one of two HEADS is never in common. */
        private int partingOf(int one, int two) {
            int a = one;
            int b = two;
            for (int i = 0; i < 2 * MOST && a != b && a >= 0 && b >= 0; i++) {
                if (a > b) {
                    a = before[a];
                } else {
                    b = before[b];
                }
            }
            return a == b ? a : NONE;
        }

        /** Notes the last MOVE about each topic behind the PARTING: how many MOVES there are. */
        private int lastOfTopics(int head, int parting, int[] last) {
            Arrays.fill(last, NONE);
            int length = 0;
            int move = head;
            while (length < MOST && move != parting && move >= 0) {
                int topic = topicOf(move);
                if (last[topic] == NONE) {
                    last[topic] = move;
                }
                length++;
                move = before[move];
            }
            return length;
        }

        private int topicOf(int i) {
            int surface = surfaceOf[i];
            switch (kinds[i]) {
                case BEHIND:
                    return Lens.SLOTS + surface;
                case STOP:
                    return STOP_TOPIC;
                case ZOOM:
                    return Lens.zoomSlot(surface, whatOf[i]);
                case COAT:
                    return Lens.SLOTS + MOST_SURFACES + surface;
                default:
                    return Lens.slot(surface, whatOf[i]);
            }
        }

        private boolean areAlike(int i, int j) {
            return kinds[i] == kinds[j] && surfaceOf[i] == surfaceOf[j] && whatOf[i] == whatOf[j]
                    && aheadOf[i] == aheadOf[j] && tops[i] == tops[j] && bottoms[i] == bottoms[j];
        }
    }

    /** A LENS near the axis: its MEDIA, what is WORKED, and four rays, all by the VIEW's STATE and WAVE. */
    private static final class Near {
        static final int MARGINAL = 0;
        // the rays that start with height 1, angle 0, and with height 0, angle 1
        static final int HIGH = 1;
        static final int STEEP = 2;
        // the last one, as it hangs on where the two others meet the STOP
        static final int CHIEF = 3;
        static final int RAYS = 4;

        final Fraction[] glasses = Fraction.row(MOST_GLASSES * WAVES);
        final Fraction[] indexes = Fraction.row((MOST_SURFACES + 1) * WAVES);
        final Fraction[] curves = Fraction.row(MOST_SURFACES);
        final Fraction[] gaps = Fraction.row(MOST_SURFACES);
        final Fraction[] conics = Fraction.row(MOST_SURFACES);
        final Fraction[] heights = Fraction.row(RAYS * (MOST_SURFACES + 1));
        final Fraction[] angles = Fraction.row(RAYS * (MOST_SURFACES + 1));
        final Fraction object = new Fraction();
        final Fraction field = new Fraction();
        final Fraction beam = new Fraction();
        final Fraction one = new Fraction();
        final Fraction two = new Fraction();
        final Fraction three = new Fraction();
        final Fraction told = new Fraction();
        Lens lens = new Lens();
        int state = 0;
        int wave = 0;

        Near() {
            for (int i = 0; i < MOST_GLASSES * WAVES; i++) {
                glasses[i].put(1, 1);
            }
        }

        Fraction ahead(int surface, int by) {
            return indexes[surface * WAVES + by];
        }

        Fraction beyond(int surface, int by) {
            return indexes[(surface + 1) * WAVES + by];
        }

        Fraction heightOf(int ray, int surface) {
            return heights[ray * (MOST_SURFACES + 1) + surface];
        }

        /** The angle ahead of a SURFACE; that of the number behind the last SURFACE is the one that leaves it. */
        Fraction angleOf(int ray, int surface) {
            return angles[ray * (MOST_SURFACES + 1) + surface];
        }

        Fraction[] workedRow(int sort) {
            return sort == 0 ? curves : sort == 1 ? gaps : conics;
        }

        boolean isMirror(int surface) {
            return lens.media[surface] == MIRROR;
        }

        private void load(Fraction out, int slot) {
            out.put(lens.tops[slot], lens.bottoms[slot]);
        }

        private void loadMedia() {
            boolean turnedAbout = false;
            for (int by = 0; by < WAVES; by++) {
                ahead(0, by).like(glasses[by]);
            }
            for (int s = 0; s < lens.surfaces; s++) {
                boolean mirror = isMirror(s);
                turnedAbout = turnedAbout != mirror;
                for (int by = 0; by < WAVES; by++) {
                    Fraction behind = beyond(s, by);
                    if (mirror) {
                        behind.turned(ahead(s, by));
                    } else {
                        behind.like(glasses[lens.media[s] * WAVES + by]);
                        if (turnedAbout) {
                            behind.turn();
                        }
                    }
                }
            }
        }

        /** Works all data of a LENS; the MARGINAL ray by WAVE 0 goes through places that carry() writes over. */
        void work(Lens from) {
            lens = from;
            loadMedia();
            load(object, Lens.OBJECT);
            load(field, Lens.FIELD);
            load(beam, Lens.BEAM);
            startMarginal();
            for (int s = 0; s < lens.surfaces; s++) {
                Fraction y = heightOf(MARGINAL, s);
                Fraction u = angleOf(MARGINAL, s);
                Fraction left = angleOf(MARGINAL, s + 1);
                workCurve(s, y, u);
                bend(left, ahead(s, 0), u, y, curves[s], beyond(s, 0));
                workGap(s, y, left);
                workConic(s);
                glide(heightOf(MARGINAL, s + 1), y, gaps[s], left);
            }
        }

        private void startMarginal() {
            heightOf(MARGINAL, 0).like(beam);
            if (object.isZero()) {
                angleOf(MARGINAL, 0).put(0, 1);
            } else {
                angleOf(MARGINAL, 0).quotient(beam, object);
            }
        }

        private void workCurve(int s, Fraction y, Fraction u) {
            int slot = Lens.slot(s, 0);
            int way = lens.ways[slot];
            load(told, slot);
            if (way == Lens.TOLD) {
                curves[s].like(told);
            } else if (way == Lens.SOLVED) {
                one.product(ahead(s, 0), u);
                two.product(beyond(s, 0), told);
                one.sum(one, LESS, two);
                two.sum(beyond(s, 0), LESS, ahead(s, 0));
                two.product(y, two);
                curves[s].quotient(one, two);
            } else {
                curves[s].product(told, curves[way - 1]);
            }
        }

        private void workGap(int s, Fraction y, Fraction left) {
            int slot = Lens.slot(s, 1);
            int way = lens.ways[slot];
            load(told, slot);
            if (way == Lens.SOLVED) {
                one.sum(told, LESS, y);
                gaps[s].quotient(one, left);
            } else if (way != Lens.TOLD) {
                gaps[s].product(told, gaps[way - 1]);
            } else if (state > 0 && lens.ways[Lens.zoomSlot(s, state)] == Lens.TOLD) {
                load(gaps[s], Lens.zoomSlot(s, state));
            } else {
                gaps[s].like(told);
            }
        }

        private void workConic(int s) {
            int slot = Lens.slot(s, 2);
            int way = lens.ways[slot];
            load(told, slot);
            if (way == Lens.TOLD) {
                conics[s].like(told);
            } else {
                conics[s].product(told, conics[way - 1]);
            }
        }

        /** u' = ((N u) - ((y c) (N' - N))) / N'. */
        void bend(Fraction out, Fraction n, Fraction u, Fraction y, Fraction c, Fraction behind) {
            one.product(n, u);
            two.product(y, c);
            three.sum(behind, LESS, n);
            two.product(two, three);
            one.sum(one, LESS, two);
            out.quotient(one, behind);
        }

        /** y + (t u'). */
        void glide(Fraction out, Fraction y, Fraction t, Fraction u) {
            one.product(t, u);
            out.sum(y, PLUS, one);
        }

        /** All four rays by the VIEW's WAVE. */
        void carry() {
            startMarginal();
            heightOf(HIGH, 0).put(1, 1);
            angleOf(HIGH, 0).put(0, 1);
            heightOf(STEEP, 0).put(0, 1);
            angleOf(STEEP, 0).put(1, 1);
            for (int ray = 0; ray < RAYS; ray++) {
                if (ray == CHIEF) {
                    startChief(heightOf(HIGH, lens.stop), heightOf(STEEP, lens.stop));
                }
                for (int s = 0; s < lens.surfaces; s++) {
                    Fraction y = heightOf(ray, s);
                    Fraction left = angleOf(ray, s + 1);
                    bend(left, ahead(s, wave), angleOf(ray, s), y, curves[s], beyond(s, wave));
                    glide(heightOf(ray, s + 1), y, gaps[s], left);
                }
            }
        }

        private void startChief(Fraction a, Fraction b) {
            Fraction y = heightOf(CHIEF, 0);
            Fraction u = angleOf(CHIEF, 0);
            if (object.isZero()) {
                u.like(field);
                one.product(b, field);
                y.quotient(one, a);
                y.turn();
                return;
            }
            one.product(a, field);
            two.product(a, object);
            two.sum(two, PLUS, b);
            u.quotient(one, two);
            u.turn();
            one.product(object, u);
            y.sum(field, PLUS, one);
        }
    }

    /** FIRST, TERMS and BEAMS of what a Near carries. */
    private static final class Terms {
        static final int FIRSTS = 13;
        static final int TERMS = 7;
        static final int IMAGE = 6;
        // operands of merits beside the FIRSTS
        static final int SUM = 20;
        static final int CURVE = 21;
        static final int GAP = 22;

        final Near near;
        final Fraction unit = new Fraction();
        // P, Q, R of each SURFACE and H, as prepare() leaves them
        final Fraction[] marginalLeans = Fraction.row(MOST_SURFACES);
        final Fraction[] chiefLeans = Fraction.row(MOST_SURFACES);
        final Fraction[] bends = Fraction.row(MOST_SURFACES);
        final Fraction invariant = new Fraction();
        final Fraction one = new Fraction();
        final Fraction two = new Fraction();
        final Fraction three = new Fraction();
        final Fraction four = new Fraction();
        final Fraction five = new Fraction();
        final Fraction part = new Fraction();

        Terms(Near axis) {
            near = axis;
            unit.put(1, 1);
        }

        void firstOf(int what, Fraction out) {
            int m = near.lens.surfaces;
            int last = m - 1;
            if (last < 0) {
                out.lose();
                return;
            }
            Fraction a = near.heightOf(Near.HIGH, last);
            Fraction c = near.angleOf(Near.HIGH, m);
            switch (what) {
                case 0:
                    out.like(a);
                    break;
                case 1:
                    out.like(near.heightOf(Near.STEEP, last));
                    break;
                case 2:
                    out.like(c);
                    break;
                case 3:
                    out.like(near.angleOf(Near.STEEP, m));
                    break;
                case 4:
                    turnedQuotient(out, unit, c);
                    break;
                case 5:
                    turnedQuotient(out, a, c);
                    break;
                case IMAGE:
                    turnedQuotient(out, near.heightOf(Near.MARGINAL, last), near.angleOf(Near.MARGINAL, m));
                    break;
                case 7:
                    magnification(out, m);
                    break;
                case 8:
                    turnedQuotient(out, near.heightOf(Near.CHIEF, 0), near.angleOf(Near.CHIEF, 0));
                    break;
                case 9:
                    turnedQuotient(out, near.heightOf(Near.CHIEF, last), near.angleOf(Near.CHIEF, m));
                    break;
                case 10:
                    findInvariant(out);
                    break;
                case 11:
                    one.put(2, 1);
                    one.product(one, near.angleOf(Near.MARGINAL, m));
                    turnedQuotient(out, unit, one);
                    break;
                case 12:
                    out.sum(a, PLUS, near.angleOf(Near.STEEP, m));
                    break;
                default:
                    out.lose();
                    break;
            }
        }

        private void turnedQuotient(Fraction out, Fraction x, Fraction y) {
            out.quotient(x, y);
            out.turn();
        }

        private void magnification(Fraction out, int m) {
            if (near.object.isZero()) {
                out.lose();
                return;
            }
            one.product(near.ahead(0, near.wave), near.angleOf(Near.MARGINAL, 0));
            two.product(near.beyond(m - 1, near.wave), near.angleOf(Near.MARGINAL, m));
            out.quotient(one, two);
        }

        private void findInvariant(Fraction out) {
            one.product(near.heightOf(Near.CHIEF, 0), near.angleOf(Near.MARGINAL, 0));
            two.product(near.heightOf(Near.MARGINAL, 0), near.angleOf(Near.CHIEF, 0));
            one.sum(one, LESS, two);
            out.product(near.ahead(0, near.wave), one);
        }

        /** An operand of a merit: a FIRST, THE SUM of a term (behind prepare()), or what is WORKED of a SURFACE. */
        void operand(int kind, int n, Fraction out) {
            int m = near.lens.surfaces;
            if (kind == SUM) {
                out.put(0, 1);
                for (int s = 0; s < m; s++) {
                    termOf(s, n, part);
                    out.sum(out, PLUS, part);
                }
            } else if (kind == CURVE || kind == GAP) {
                if (outside(n, m)) {
                    out.lose();
                } else {
                    out.like(near.workedRow(kind == CURVE ? 0 : 1)[n]);
                }
            } else {
                firstOf(kind, out);
            }
        }

        /** What the TERMS of all SURFACES share; to be called behind carry() and ahead of termOf(). */
        void prepare() {
            findInvariant(invariant);
            for (int s = 0; s < near.lens.surfaces; s++) {
                lean(marginalLeans[s], s, Near.MARGINAL);
                lean(chiefLeans[s], s, Near.CHIEF);
                one.quotient(near.angleOf(Near.MARGINAL, s + 1), near.beyond(s, near.wave));
                two.quotient(near.angleOf(Near.MARGINAL, s), near.ahead(s, near.wave));
                bends[s].sum(one, LESS, two);
            }
        }

        /** N (u + (y c)) of a ray at a SURFACE. */
        private void lean(Fraction out, int s, int ray) {
            out.product(near.heightOf(ray, s), near.curves[s]);
            out.sum(near.angleOf(ray, s), PLUS, out);
            out.product(near.ahead(s, near.wave), out);
        }

        void termOf(int s, int term, Fraction out) {
            Fraction p = marginalLeans[s];
            Fraction q = chiefLeans[s];
            switch (term) {
                case 0:
                    bentTerm(out, s, p, p);
                    break;
                case 1:
                    bentTerm(out, s, p, q);
                    break;
                case 2:
                    bentTerm(out, s, q, q);
                    break;
                case 3:
                    fieldTerm(out, s);
                    break;
                case 4:
                    bentTerm(one, s, q, q);
                    fieldTerm(out, s);
                    out.sum(one, PLUS, out);
                    one.quotient(q, p);
                    out.product(one, out);
                    break;
                case 5:
                    colourTerm(out, s, p);
                    break;
                default:
                    colourTerm(out, s, q);
                    break;
            }
            if (term < 5 && term != 3 && !near.conics[s].isZero()) {
                addConic(out, s, term);
            }
        }

        /** -(((a b) y) R). */
        private void bentTerm(Fraction out, int s, Fraction a, Fraction b) {
            out.product(a, b);
            out.product(out, near.heightOf(Near.MARGINAL, s));
            out.product(out, bends[s]);
            out.turn();
        }

        /** -(((H H) c) ((1 / N') - (1 / N))). */
        private void fieldTerm(Fraction out, int s) {
            out.product(invariant, invariant);
            out.product(out, near.curves[s]);
            two.quotient(unit, near.beyond(s, near.wave));
            three.quotient(unit, near.ahead(s, near.wave));
            two.sum(two, LESS, three);
            out.product(out, two);
            out.turn();
        }

        /** (a y) V, V by how far WAVES 1 and 2 part on both sides. */
        private void colourTerm(Fraction out, int s, Fraction a) {
            one.sum(near.beyond(s, 1), LESS, near.beyond(s, 2));
            one.quotient(one, near.beyond(s, near.wave));
            two.sum(near.ahead(s, 1), LESS, near.ahead(s, 2));
            two.quotient(two, near.ahead(s, near.wave));
            one.sum(one, LESS, two);
            out.product(a, near.heightOf(Near.MARGINAL, s));
            out.product(out, one);
        }

        /** The term and W w. */
        private void addConic(Fraction out, int s, int term) {
            Fraction y = near.heightOf(Near.MARGINAL, s);
            Fraction chief = near.heightOf(Near.CHIEF, s);
            Fraction c = near.curves[s];
            one.product(c, c);
            one.product(c, one);
            one.product(near.conics[s], one);
            two.sum(near.beyond(s, near.wave), LESS, near.ahead(s, near.wave));
            one.product(one, two);
            two.product(term < 2 ? y : chief, term < 1 ? y : chief);
            two.product(term < 4 ? y : chief, two);
            two.product(y, two);
            one.product(one, two);
            out.sum(out, PLUS, one);
        }

        /** What a BEAM x, z becomes, part 0 or 1 of it, in place of x. */
        void beamOf(Fraction x, Fraction z, int which) {
            int m = near.lens.surfaces;
            int last = m - 1;
            if (last < 0) {
                x.lose();
                return;
            }
            Fraction a = near.heightOf(Near.HIGH, last);
            Fraction c = near.angleOf(Near.HIGH, m);
            Fraction e = one;
            Fraction f = two;
            Fraction g = three;
            Fraction h = four;
            e.product(a, x);
            e.sum(e, PLUS, near.heightOf(Near.STEEP, last));
            f.product(a, z);
            g.product(c, x);
            g.sum(g, PLUS, near.angleOf(Near.STEEP, m));
            h.product(c, z);
            five.product(g, g);
            part.product(h, h);
            five.sum(five, PLUS, part);
            if (which == 0) {
                e.product(e, g);
                f.product(f, h);
                x.sum(e, PLUS, f);
            } else {
                f.product(f, g);
                e.product(e, h);
                x.sum(f, LESS, e);
            }
            x.quotient(x, five);
        }
    }

    /** FILMS, the SHARE that a SURFACE sends back, and GHOSTS. */
    private static final class Ghosts {
        static final int MOST_LAYERS = 8;
        static final int MOST_QUARTERS = 8;

        final Near near;
        final int[] layers = new int[MOST_FILMS];
        final int[] quarters = new int[MOST_FILMS * MOST_LAYERS];
        final Fraction[] indexes = Fraction.row(MOST_FILMS * MOST_LAYERS);
        final Fraction ahead = new Fraction();
        final Fraction beyond = new Fraction();
        final Fraction p = new Fraction();
        final Fraction q = new Fraction();
        final Fraction swap = new Fraction();
        final Fraction y = new Fraction();
        final Fraction u = new Fraction();
        final Fraction part = new Fraction();

        Ghosts(Near axis) {
            near = axis;
        }

        int addLayer(int film, int count, Fraction index) {
            int i = layers[film];
            if (i >= MOST_LAYERS) {
                return FULL;
            }
            quarters[film * MOST_LAYERS + i] = count;
            indexes[film * MOST_LAYERS + i].like(index);
            layers[film] = i + 1;
            return i + 1;
        }

        /** A SURFACE without a FILM goes as one whose FILM has no LAYERS. */
        void shareOf(int s, Fraction out) {
            if (near.isMirror(s)) {
                out.put(1, 1);
                return;
            }
            takeWithoutSign(ahead, near.ahead(s, 0));
            takeWithoutSign(q, near.beyond(s, 0));
            p.put(1, 1);
            int film = near.lens.coats[s];
            int count = film == NONE ? 0 : layers[film];
            for (int i = count - 1; i >= 0; i--) {
                int at = film * MOST_LAYERS + i;
                if (quarters[at] % 2 == 1) {
                    swap.quotient(q, indexes[at]);
                    q.product(indexes[at], p);
                    p.like(swap);
                }
            }
            p.product(ahead, p);
            swap.sum(p, LESS, q);
            p.sum(p, PLUS, q);
            swap.quotient(swap, p);
            out.product(swap, swap);
        }

        private void takeWithoutSign(Fraction out, Fraction x) {
            out.put(x.top < 0 ? -x.top : x.top, x.bottom);
        }

        /** The MARGINAL ray sent back at j, then at i, and on to the last SURFACE: where it meets the axis. */
        void placeOf(int i, int j, Fraction out) {
            int by = near.wave;
            y.like(near.heightOf(Near.MARGINAL, j));
            u.like(near.angleOf(Near.MARGINAL, j));
            beyond.turned(near.ahead(j, by));
            near.bend(u, near.ahead(j, by), u, y, near.curves[j], beyond);
            for (int s = j - 1; s >= i; s--) {
                swap.turned(near.gaps[s]);
                near.glide(y, y, swap, u);
                ahead.turned(near.beyond(s, by));
                if (s == i) {
                    beyond.like(near.beyond(s, by));
                } else {
                    beyond.turned(near.ahead(s, by));
                }
                near.bend(u, ahead, u, y, near.curves[s], beyond);
            }
            for (int s = i + 1; s < near.lens.surfaces; s++) {
                near.glide(y, y, near.gaps[s - 1], u);
                near.bend(u, near.ahead(s, by), u, y, near.curves[s], near.beyond(s, by));
            }
            out.quotient(y, u);
            out.turn();
        }

        void powerOf(int i, int j, Fraction out) {
            out.put(1, 1);
            for (int s = 0; s < j; s++) {
                passOn(s, out);
            }
            sendBack(j, out);
            for (int s = j - 1; s > i; s--) {
                passOn(s, out);
            }
            sendBack(i, out);
            for (int s = i + 1; s < near.lens.surfaces; s++) {
                passOn(s, out);
            }
        }

        private void sendBack(int s, Fraction power) {
            shareOf(s, part);
            power.product(power, part);
        }

        private void passOn(int s, Fraction power) {
            if (near.isMirror(s)) {
                return;
            }
            shareOf(s, part);
            p.put(1, 1);
            part.sum(p, LESS, part);
            power.product(power, part);
        }
    }

    /** The VIEW's LENS in doubles. */
    private static final class Solid {
        final double[] curves = new double[MOST_SURFACES];
        final double[] conics = new double[MOST_SURFACES];
        final double[] gaps = new double[MOST_SURFACES];
        final double[] halves = new double[MOST_SURFACES];
        final boolean[] mirrors = new boolean[MOST_SURFACES];
        // ahead of each SURFACE, without signs; one more behind the last
        final double[] indexes = new double[MOST_SURFACES + 1];
        int surfaces = 0;
        boolean farAway = true;
        double beam = 0.0;
        double object = 0.0;
        double field = 0.0;
        double height = 0.0;
        double slope = 0.0;
        double image = 0.0;

        /** False, if something that rays need is LOST. */
        boolean load(Near near, Fraction imagePlace) {
            Fraction chiefHeight = near.heightOf(Near.CHIEF, 0);
            Fraction chiefAngle = near.angleOf(Near.CHIEF, 0);
            if (imagePlace.isLost() || chiefHeight.isLost() || chiefAngle.isLost()) {
                return false;
            }
            surfaces = near.lens.surfaces;
            for (int s = 0; s < surfaces; s++) {
                if (near.curves[s].isLost() || near.gaps[s].isLost() || near.conics[s].isLost()) {
                    return false;
                }
                curves[s] = near.curves[s].asDouble();
                gaps[s] = near.gaps[s].asDouble();
                conics[s] = near.conics[s].asDouble();
                int half = Lens.slot(s, 3);
                halves[s] = quotient(near.lens.tops[half], near.lens.bottoms[half]);
                mirrors[s] = near.isMirror(s);
            }
            for (int s = 0; s <= surfaces; s++) {
                double index = near.ahead(s, near.wave).asDouble();
                indexes[s] = index < 0.0 ? -index : index;
            }
            farAway = near.object.isZero();
            beam = near.beam.asDouble();
            object = near.object.asDouble();
            field = near.field.asDouble();
            height = chiefHeight.asDouble();
            slope = chiefAngle.asDouble();
            image = imagePlace.asDouble();
            return true;
        }

        private static double quotient(long top, long bottom) {
            return bottom == 0 ? 0.0 : (double) top / (double) bottom;
        }
    }

    /** A RAY on its flight, what it marked on its way, and the sums of a SPOT of such rays. */
    private static final class Flight {
        static final int MISSED = 0;
        static final int BLOCKED = 1;
        static final int TOTAL = 2;
        static final int PASSES = 3;
        static final int MARKS = 7;

        final double[] marks = new double[(MOST_SURFACES + 1) * MARKS];
        int places = 0;
        double x = 0.0;
        double y = 0.0;
        double z = 0.0;
        double l = 0.0;
        double m = 0.0;
        double n = 0.0;
        double path = 0.0;
        double way = 0.0;
        double normalX = 0.0;
        double normalY = 0.0;
        double normalZ = 0.0;
        int passed = 0;
        double sumX = 0.0;
        double sumY = 0.0;
        double sumSquares = 0.0;

        void forgetRay() {
            places = 0;
            passed = 0;
            sumX = 0.0;
            sumY = 0.0;
            sumSquares = 0.0;
        }

        double markOf(int surface, int what) {
            if (outside(surface, places) || outside(what, MARKS)) {
                return 0.0;
            }
            return number(marks[surface * MARKS + what]);
        }

        double spreadOf(int what) {
            double meanX = passed == 0 ? 0.0 : sumX / passed;
            double meanY = passed == 0 ? 0.0 : sumY / passed;
            switch (what) {
                case 0:
                    return number(sumX);
                case 1:
                    return number(sumY);
                case 2:
                    return number(sumSquares);
                case 3:
                    return number(meanX);
                case 4:
                    return number(meanY);
                case 5:
                    return passed == 0 ? 0.0 : number(sumSquares / passed - (meanX * meanX + meanY * meanY));
                default:
                    return 0.0;
            }
        }

        int flyAll(Solid lens, int size, double fx, double fy) {
            forgetRay();
            for (int j = -size; j <= size; j++) {
                for (int i = -size; i <= size; i++) {
                    if (i * i + j * j <= size * size && fly(lens, (double) i / size, (double) j / size, fx, fy) == 0) {
                        passed++;
                        sumX = sumX + x;
                        sumY = sumY + y;
                        sumSquares = sumSquares + (x * x + y * y);
                    }
                }
            }
            return passed;
        }

        int fly(Solid lens, double px, double py, double fx, double fy) {
            places = lens.surfaces + 1;
            Arrays.fill(marks, 0.0);
            start(lens, within(px), within(py), within(fx), within(fy));
            for (int s = 0; s < lens.surfaces; s++) {
                int end = meet(lens, s);
                if (end == PASSES) {
                    end = bend(lens, s);
                }
                if (end != PASSES) {
                    return 1 + 3 * s + end;
                }
            }
            return reachPlane(lens) ? 0 : 1 + 3 * lens.surfaces + MISSED;
        }

        private static double within(double told) {
            return told > -1000000.0 && told < 1000000.0 ? told : 0.0;
        }

        private static boolean isNear(double told) {
            return told > -1.0E60 && told < 1.0E60;
        }

        private static double number(double told) {
            return told == told ? told : 0.0;
        }

        private void start(Solid lens, double px, double py, double fx, double fy) {
            x = px * lens.beam + fx * lens.height;
            y = py * lens.beam + fy * lens.height;
            if (lens.farAway) {
                l = fx * lens.slope;
                m = fy * lens.slope;
            } else {
                l = (x - fx * lens.field) / lens.object;
                m = (y - fy * lens.field) / lens.object;
            }
            double r = root(1.0 + l * l + m * m);
            l = l / r;
            m = m / r;
            n = 1.0 / r;
            z = 0.0;
            path = 0.0;
        }

        /** On to the plane where z is 0.0; false, if the ray is MISSED on the way. */
        private boolean glide() {
            if (!isNear(l) || !isNear(m) || !isNear(n) || n == 0.0) {
                return false;
            }
            way = -z / n;
            if (!isNear(way)) {
                return false;
            }
            x = x + way * l;
            y = y + way * m;
            return isNear(x) && isNear(y);
        }

        /** Where the ray meets a SURFACE, and the normal there. */
        private int meet(Solid lens, int s) {
            if (!glide()) {
                return MISSED;
            }
            double c = lens.curves[s];
            double k = lens.conics[s];
            double p = n - c * (x * l + y * m);
            double q = c * (x * x + y * y);
            double r = p * p - c * (1.0 + k * n * n) * q;
            if (!(r >= 0.0)) {
                return MISSED;
            }
            double side = root(r);
            if (n < 0.0) {
                side = -side;
            }
            if (p + side == 0.0) {
                return MISSED;
            }
            double d = q / (p + side);
            if (!isNear(d)) {
                return MISSED;
            }
            x = x + d * l;
            y = y + d * m;
            z = d * n;
            path = path + lens.indexes[s] * (way + d);
            return findNormal(c, k) ? PASSES : MISSED;
        }

        private boolean findNormal(double c, double k) {
            double a = 0.0 - c * x;
            double b = 0.0 - c * y;
            double w = 1.0 - (1.0 + k) * c * z;
            double length = root(a * a + b * b + w * w);
            if (length == 0.0) {
                return false;
            }
            normalX = a / length;
            normalY = b / length;
            normalZ = w / length;
            return true;
        }

        /** How the ray goes on from a SURFACE that it meets; marks are made as far as it comes. */
        private int bend(Solid lens, int s) {
            mark(s, 0.0, 0.0, 0.0);
            double half = lens.halves[s];
            if (half != 0.0 && x * x + y * y > half * half) {
                return BLOCKED;
            }
            double j = l * normalX + m * normalY + n * normalZ;
            double g = -2.0 * j;
            double q = 1.0;
            if (!lens.mirrors[s]) {
                double behind = lens.indexes[s + 1];
                if (behind == 0.0) {
                    return TOTAL;
                }
                q = lens.indexes[s] / behind;
                double k = 1.0 - q * q * (1.0 - j * j);
                if (!(k >= 0.0)) {
                    return TOTAL;
                }
                g = root(k);
                g = (j < 0.0 ? -g : g) - q * j;
            }
            l = q * l + g * normalX;
            m = q * m + g * normalY;
            n = q * n + g * normalZ;
            mark(s, l, m, n);
            z = z - (s == lens.surfaces - 1 ? lens.image : lens.gaps[s]);
            return PASSES;
        }

        private boolean reachPlane(Solid lens) {
            if (!glide()) {
                return false;
            }
            path = path + lens.indexes[lens.surfaces] * way;
            z = 0.0;
            mark(lens.surfaces, l, m, n);
            return true;
        }

        private void mark(int place, double goesX, double goesY, double goesZ) {
            int start = place * MARKS;
            marks[start] = x;
            marks[start + 1] = y;
            marks[start + 2] = z;
            marks[start + 3] = goesX;
            marks[start + 4] = goesY;
            marks[start + 5] = goesZ;
            marks[start + 6] = path;
        }

        /**
         * The square root, rightly rounded, for numbers not below 0: no library may be used on doubles. The number is
         * brought to 1 .. 4 by powers of 4; a near root of 53 bits is then put right by its exact rest in longs.
         */
        private static double root(double told) {
            if (told == 0.0 || told > 1.7976931348623157E308) {
                return told;
            }
            double a = told;
            double scale = 1.0;
            for (int i = 0; i < 20 && a >= 18446744073709551616.0; i++) {
                a = a / 18446744073709551616.0;
                scale = scale * 4294967296.0;
            }
            for (int i = 0; i < 20 && a < 1.0 / 18446744073709551616.0; i++) {
                a = a * 18446744073709551616.0;
                scale = scale / 4294967296.0;
            }
            for (int i = 0; i < 40 && a >= 4.0; i++) {
                a = a / 4.0;
                scale = scale * 2.0;
            }
            for (int i = 0; i < 40 && a < 1.0; i++) {
                a = a * 4.0;
                scale = scale / 2.0;
            }
            double near = 0.5 + 0.4 * a;
            for (int i = 0; i < 5; i++) {
                near = (near + a / near) / 2.0;
            }
            return (double) roundRoot((long) (a * 4503599627370496.0), (long) (near * 4503599627370496.0))
                    / 4503599627370496.0 * scale;
        }

        /** The whole number nearest to the root of 2^52 times a number; both wrap alike, and their rest is small. */
        private static long roundRoot(long number, long near) {
            long root = near;
            for (int i = 0; i < 16; i++) {
                long rest = (number << 52) - root * root;
                if (rest > root) {
                    root++;
                } else if (rest <= -root) {
                    root--;
                } else {
                    break;
                }
            }
            return root;
        }
    }

    /** A MERIT's ROWS, and the reading of its text. */
    private static final class Merit {
        static final int MOST_ROWS = 10;
        static final int MOST_DIGITS = 9;
        // sorts of TOKENS beside the signs, which stand for themselves
        static final int END = 0;
        static final int WORD = 1;
        static final int DIGITS = 2;
        static final int WRONG = 3;

        int rows = 0;
        // whether an operand of a ROW is THE SUM of a term
        boolean sums = false;
        final int[] operands = new int[MOST_ROWS];
        final int[] places = new int[MOST_ROWS];
        final int[] signs = new int[MOST_ROWS];
        final Fraction[] numbers = Fraction.row(MOST_ROWS);
        final Fraction[] weights = Fraction.row(MOST_ROWS);
        byte[] text = new byte[0];
        int length = 0;
        int start = 0;
        int end = 0;
        int token = END;
        long value = 0;

        /** Whether a ROW counts, by its sign, for a v. */
        boolean counts(int row, Fraction v) {
            int held = v.against(numbers[row]);
            return signs[row] == '=' || signs[row] == '<' && held > 0 || signs[row] == '>' && held < 0;
        }

        /** How many ROWS a text has, or -10 less the place where it is wrong. */
        int read(byte[] tape, int bytes) {
            text = tape;
            length = bytes;
            end = 0;
            rows = 0;
            sums = false;
            step();
            for (int row = 0; row < MOST_ROWS; row++) {
                if (!readRow(row)) {
                    return -10 - start;
                }
                if (token == END) {
                    rows = row + 1;
                    return rows;
                }
                if (token != ';') {
                    return -10 - start;
                }
                step();
            }
            return -10 - start;
        }

        private boolean readRow(int row) {
            if (!readOperand(row) || token != '=' && token != '<' && token != '>') {
                return false;
            }
            signs[row] = token;
            step();
            if (!readNumber(numbers[row])) {
                return false;
            }
            weights[row].put(1, 1);
            if (token != WORD || !isWord("by")) {
                return true;
            }
            step();
            return readNumber(weights[row]);
        }

        private boolean readOperand(int row) {
            int operand = token == WORD ? operandOf() : NONE;
            if (operand == NONE) {
                return false;
            }
            operands[row] = operand;
            places[row] = 0;
            step();
            if (operand < Terms.FIRSTS) {
                return true;
            }
            int most = operand == Terms.SUM ? Terms.TERMS : MOST_SURFACES;
            if (token != DIGITS || value >= most) {
                return false;
            }
            places[row] = (int) value;
            sums = sums || operand == Terms.SUM;
            step();
            return true;
        }

        private int operandOf() {
            if (isWord("focal")) {
                return 4;
            }
            if (isWord("back")) {
                return 5;
            }
            if (isWord("image")) {
                return Terms.IMAGE;
            }
            if (isWord("mag")) {
                return 7;
            }
            if (isWord("number")) {
                return 11;
            }
            if (isWord("sum")) {
                return Terms.SUM;
            }
            if (isWord("curve")) {
                return Terms.CURVE;
            }
            return isWord("gap") ? Terms.GAP : NONE;
        }

        private boolean readNumber(Fraction out) {
            boolean turned = token == '-';
            if (turned) {
                step();
            }
            if (token != DIGITS) {
                return false;
            }
            long above = turned ? -value : value;
            long below = 1;
            step();
            if (token == '/') {
                step();
                if (token != DIGITS || value == 0) {
                    return false;
                }
                below = value;
                step();
            }
            return out.take(above, below);
        }

        private boolean isWord(String word) {
            if (end - start != word.length()) {
                return false;
            }
            for (int i = 0; i < word.length(); i++) {
                if (text[start + i] != word.charAt(i)) {
                    return false;
                }
            }
            return true;
        }

        /** On to the next TOKEN; digits beyond nine are WRONG as a whole. */
        private void step() {
            start = end;
            while (start < length && (text[start] == 32 || text[start] == 10)) {
                start++;
            }
            end = start;
            if (start >= length) {
                token = END;
                return;
            }
            int first = text[start];
            if (isLetter(first)) {
                token = WORD;
                while (end < length && isLetter(text[end])) {
                    end++;
                }
            } else if (isDigit(first)) {
                readDigits();
            } else {
                token = isSign(first) ? first : WRONG;
                end = start + 1;
            }
        }

        private void readDigits() {
            value = 0;
            while (end < length && isDigit(text[end])) {
                value = end - start < MOST_DIGITS ? value * 10 + text[end] - '0' : value;
                end++;
            }
            token = end - start <= MOST_DIGITS ? DIGITS : WRONG;
        }

        private static boolean isLetter(int b) {
            return b >= 'a' && b <= 'z';
        }

        private static boolean isDigit(int b) {
            return b >= '0' && b <= '9';
        }

        private static boolean isSign(int b) {
            return b == '=' || b == '<' || b == '>' || b == ';' || b == '-' || b == '/';
        }
    }

    /** VARIABLES or TOLERANCES: data with a step each. */
    private static final class Changes {
        final int[] surfaces;
        final int[] sorts;
        final Fraction[] steps;
        int number = 0;

        Changes(int most) {
            int room = most < 0 ? 0 : most;
            surfaces = new int[room];
            sorts = new int[room];
            steps = Fraction.row(room);
        }

        int add(int surface, int sort, Fraction step) {
            if (number >= steps.length) {
                return FULL;
            }
            surfaces[number] = surface;
            sorts[number] = sort;
            steps[number].like(step);
            number++;
            return number;
        }

        int slotOf(int i) {
            return Lens.slot(surfaces[i], sorts[i]);
        }
    }

    /** VALUES of merits, ROUNDS that better them, TOLERANCES and DRAWS, tried on a LENS beside the tree. */
    private static final class Search {
        static final int MOST_HALVINGS = 4;

        final Tree tree;
        final Near near;
        final Terms terms;
        final Changes variables = new Changes(5);
        final Changes tolerances = new Changes(6);
        final Lens trial = new Lens();
        final Fraction best = new Fraction();
        final Fraction found = new Fraction();
        final Fraction step = new Fraction();
        final Fraction half = new Fraction();
        final Fraction datum = new Fraction();
        final Fraction v = new Fraction();

        Search(Tree moves, Near axis, Terms third) {
            tree = moves;
            near = axis;
            terms = third;
            half.put(1, 2);
        }

        int forgetAll() {
            int had = variables.number + tolerances.number;
            variables.number = 0;
            tolerances.number = 0;
            return had;
        }

        /** The VALUE of a MERIT for a LENS, seen as the VIEW tells. */
        void worth(Merit merit, Lens lens, Fraction out) {
            near.work(lens);
            near.carry();
            if (merit.sums) {
                terms.prepare();
            }
            out.put(0, 1);
            for (int row = 0; row < merit.rows; row++) {
                terms.operand(merit.operands[row], merit.places[row], v);
                if (v.isLost()) {
                    out.lose();
                    return;
                }
                if (merit.counts(row, v)) {
                    v.sum(v, LESS, merit.numbers[row]);
                    v.product(v, v);
                    v.product(merit.weights[row], v);
                    out.sum(out, PLUS, v);
                }
            }
        }

        /** One ROUND from the VALUE in best: how many MOVES came of it, or FULL where one had no room. */
        int goRound(Merit merit, int number, int halvings) {
            Lens lens = tree.lenses[number];
            int moved = 0;
            for (int i = 0; i < variables.number; i++) {
                int slot = variables.slotOf(i);
                for (int side = 0; side < 2 && lens.ways[slot] == Lens.TOLD; side++) {
                    takeStep(i, halvings);
                    trial.copy(lens);
                    shift(slot, side);
                    worth(merit, trial, found);
                    if (trial.bottoms[slot] == 0 || found.isLost() || found.against(best) >= 0) {
                        continue;
                    }
                    if (tree.record(Tree.TELL, number, variables.surfaces[i], variables.sorts[i], NONE,
                            trial.tops[slot], trial.bottoms[slot]) == FULL) {
                        return FULL;
                    }
                    best.like(found);
                    moved++;
                    break;
                }
            }
            return moved;
        }

        private void takeStep(int i, int halvings) {
            step.like(variables.steps[i]);
            for (int h = 0; h < halvings; h++) {
                step.product(step, half);
            }
        }

        /** Tells a datum of the trial by the step more (side 0) or less; a LOST one stays in it as LOST. */
        private void shift(int slot, int side) {
            if (trial.ways[slot] != Lens.TOLD) {
                return;
            }
            datum.put(trial.tops[slot], trial.bottoms[slot]);
            datum.sum(datum, side == 0 ? PLUS : LESS, step);
            trial.tell(slot, Lens.TOLD, datum.top, datum.bottom);
        }

        void worseOf(int tolerance, int side, Merit merit, Lens lens, Fraction out) {
            trial.copy(lens);
            step.like(tolerances.steps[tolerance]);
            shift(tolerances.slotOf(tolerance), side);
            worth(merit, trial, out);
        }

        int draw(int n, long seed, Merit merit, Lens lens, Fraction limit) {
            long z = seed;
            int counted = 0;
            for (int drawn = 0; drawn < n; drawn++) {
                trial.copy(lens);
                for (int i = 0; i < tolerances.number; i++) {
                    z = z * 6364136223846793005L + 1442695040888963407L;
                    step.like(tolerances.steps[i]);
                    shift(tolerances.slotOf(i), z >>> 63 == 1 ? 0 : 1);
                }
                worth(merit, trial, found);
                if (!found.isLost() && found.against(limit) <= 0) {
                    counted++;
                }
            }
            return counted;
        }
    }
}
