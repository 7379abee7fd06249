/**
 * Colourings of pairs of points that count evenly, what follows from them, and the sieve for
 * strict tables. The document DOC.md says what every call answers.
 */
public final class ShareTables {
    public static final int BAD = -1, STATE = -2, FULL = -3, NONE = -9;

    private static final int MOST_POINTS = 8;
    private static final int COLOURS = 5;
    private static final int MOST_WEIGHT = 9;
    private static final int MOST_STEPS = 6;
    private static final int MAPS = 625;
    private static final int LEAST_TABLE = 2;
    private static final int MOST_TABLE = 200;
    private static final int MOST_COUNTED = 40;

    private final int[] weights;
    private final Walk walk;
    private final Division division;
    private Colouring now;
    private Colouring spare;
    private long traced;

    public ShareTables() {
        weights = new int[COLOURS];
        for (int i = 0; i < COLOURS; i++) {
            weights[i] = 1;
        }
        walk = new Walk();
        division = new Division();
        now = new Colouring();
        spare = new Colouring();
        now.begin(1);
        traced = 0;
    }

    // ---- points, colours

    public int points(int n) {
        if (n < 1 || n > MOST_POINTS) {
            return BAD;
        }
        int before = now.size;
        now.begin(n);
        return before;
    }

    public int colour(int a, int b, int c) {
        if (!isPoint(a) || !isPoint(b) || c < 0 || c >= COLOURS) {
            return BAD;
        }
        int before = now.colourOf(a, b);
        now.paint(a, b, c);
        now.measure();
        return before;
    }

    public int at(int a, int b) {
        if (!isPoint(a) || !isPoint(b)) {
            return BAD;
        }
        return now.colourOf(a, b);
    }

    public int ring(int digits) {
        int bound = 1;
        for (int step = 1; step < now.size; step++) {
            bound *= COLOURS;
        }
        if (digits < 0 || digits >= bound) {
            return BAD;
        }
        now.paintRing(digits);
        return isEven() ? 1 : 0;
    }

    public int fails() {
        return now.failure;
    }

    // ---- an even one

    public int number(int i, int j, int k) {
        if (!isColour(i) || !isColour(j) || !isColour(k)) {
            return BAD;
        }
        if (!isEven()) {
            return STATE;
        }
        return now.numberOf(i, j, k);
    }

    public int of(int i, int what) {
        if (!isColour(i) || what < 0 || what > 1) {
            return BAD;
        }
        if (!isEven()) {
            return STATE;
        }
        return what == 0 ? now.reverseOf(i) : now.degreeOf(i);
    }

    public int turns() {
        if (!isEven()) {
            return STATE;
        }
        return now.multipliesEitherWay() ? 1 : 0;
    }

    public int closed(int set, int what) {
        if (what < 0 || what > 2 || (what != 2 && !isSet(set))) {
            return BAD;
        }
        if (!isEven()) {
            return STATE;
        }
        if (what == 0) {
            return now.isClosed(set) ? 1 : 0;
        }
        return what == 1 ? now.hullOf(set) : now.closedSets();
    }

    public int order(int set) {
        if (!isSet(set)) {
            return BAD;
        }
        if (!isEven()) {
            return STATE;
        }
        return now.orderOf(now.hullOf(set));
    }

    public int worth(int kind, int i) {
        if (kind < 0 || kind > 2 || !isColour(i)) {
            return BAD;
        }
        if (!isEven()) {
            return STATE;
        }
        if (kind == 0) {
            return worthByDegrees(i);
        }
        return kind == 1 ? worthByHulls(i) : worthByTriples(i);
    }

    // ---- others from it

    public int fuse(int map) {
        if (map < 0 || map >= MAPS || !mapsEveryColour(map)) {
            return BAD;
        }
        if (!isEven()) {
            return STATE;
        }
        spare.paintFused(now, map);
        if (spare.failure != 0) {
            return 0;
        }
        takeSpare();
        return 1;
    }

    public int quotient(int set) {
        if (!isSet(set)) {
            return BAD;
        }
        if (!isEven()) {
            return STATE;
        }
        division.divide(now, now.hullOf(set), spare);
        takeSpare();
        return now.size;
    }

    public int weight(int i, int v) {
        if (i < 0 || i >= COLOURS || v < 0 || v > MOST_WEIGHT) {
            return BAD;
        }
        int before = weights[i];
        weights[i] = v;
        return before;
    }

    public long chance(int i, int t, int part) {
        if (!isColour(i) || t < 0 || t > MOST_STEPS || part < 0 || part > 1) {
            return BAD;
        }
        if (!isEven() || weightBelowRank() == 0) {
            return STATE;
        }
        walk.go(now, weights, t);
        long upper = walk.waysTo(now, i);
        long lower = walk.all;
        long common = Walk.commonDivisor(upper, lower);
        if (common == 0) {
            return STATE;
        }
        return part == 0 ? upper / common : lower / common;
    }

    // ---- the sieve

    public int sieve(int n, int k, int l, int m) {
        if (n < LEAST_TABLE || n > MOST_TABLE || k < 1 || k > n - 2) {
            return BAD;
        }
        if (l < 0 || l > k - 1 || m < 0 || m > k) {
            return BAD;
        }
        return Sieve.firstFailure(n, k, l, m);
    }

    public int many(int n) {
        if (n < LEAST_TABLE || n > MOST_COUNTED) {
            return BAD;
        }
        int passing = 0;
        for (int k = 1; 2 * k <= n - 1; k++) {
            for (int l = 0; l < k; l++) {
                for (int m = 0; m <= k; m++) {
                    if (Sieve.firstFailure(n, k, l, m) == 0) {
                        passing++;
                    }
                }
            }
        }
        return passing;
    }

    public int count(int what) {
        switch (what) {
            case 0:
                return now.size;
            case 1:
                return now.rank;
            case 2:
                return isEven() ? 1 : 0;
            case 3:
                return weightBelowRank();
            default:
                return BAD;
        }
    }

    public long trace() {
        return traced;
    }

    // ---- what several calls ask

    private boolean isPoint(int a) {
        return a >= 0 && a < now.size;
    }

    private boolean isColour(int i) {
        return i >= 0 && i < now.rank;
    }

    private boolean isSet(int set) {
        return set >= 0 && set < 1 << now.rank;
    }

    private boolean isEven() {
        return now.failure == 0;
    }

    private boolean mapsEveryColour(int map) {
        for (int c = 1; c < now.rank; c++) {
            if (Colouring.fusedColour(map, c) == 0) {
                return false;
            }
        }
        return true;
    }

    private int weightBelowRank() {
        int together = 0;
        for (int c = 0; c < now.rank; c++) {
            together += weights[c];
        }
        return together;
    }

    // A change is tried in the spare colouring, so that a refused one leaves no mark.
    private void takeSpare() {
        Colouring old = now;
        now = spare;
        spare = old;
    }

    private int worthByDegrees(int i) {
        traced += 1;
        return now.degreeOf(i);
    }

    private int worthByHulls(int i) {
        traced += 10;
        return worthByDegrees(i) * now.orderOf(now.hullOf(1 << i));
    }

    private int worthByTriples(int i) {
        traced += 100;
        return worthByHulls(i) + now.numberOf(i, i, i);
    }

    /** The colours of all pairs, with rank, failure and numbers as measure() last found them. */
    private static final class Colouring {
        private static final int NO_PAIR = -1;

        final int[] colours;
        final int[] firsts;
        final int[] numbers;
        final int[] counts;
        int size;
        int rank;
        int failure;

        Colouring() {
            colours = new int[MOST_POINTS * MOST_POINTS];
            firsts = new int[COLOURS];
            numbers = new int[COLOURS * COLOURS * COLOURS];
            counts = new int[COLOURS * COLOURS];
            size = 1;
            rank = 1;
            failure = 0;
        }

        int colourOf(int a, int b) {
            return colours[a * MOST_POINTS + b];
        }

        void paint(int a, int b, int c) {
            colours[a * MOST_POINTS + b] = c;
        }

        void begin(int n) {
            size = n;
            for (int a = 0; a < n; a++) {
                for (int b = 0; b < n; b++) {
                    paint(a, b, a == b ? 0 : 1);
                }
            }
            measure();
        }

        void paintRing(int digits) {
            int left = digits;
            for (int a = 0; a < size; a++) {
                paint(a, a, 0);
            }
            for (int step = 1; step < size; step++) {
                int c = left % COLOURS;
                left = left / COLOURS;
                for (int a = 0; a < size; a++) {
                    int b = a + step;
                    paint(a, b < size ? b : b - size, c);
                }
            }
            measure();
        }

        void paintFused(Colouring from, int map) {
            size = from.size;
            for (int a = 0; a < size; a++) {
                for (int b = 0; b < size; b++) {
                    paint(a, b, fusedColour(map, from.colourOf(a, b)));
                }
            }
            measure();
        }

        static int fusedColour(int map, int c) {
            if (c == 0) {
                return 0;
            }
            int left = map;
            for (int lower = 1; lower < c; lower++) {
                left = left / COLOURS;
            }
            return left % COLOURS;
        }

        void measure() {
            findFirsts();
            failure = firstFailure();
        }

        void findFirsts() {
            for (int c = 0; c < COLOURS; c++) {
                firsts[c] = NO_PAIR;
            }
            rank = 1;
            for (int a = 0; a < size; a++) {
                for (int b = 0; b < size; b++) {
                    int c = colourOf(a, b);
                    if (firsts[c] == NO_PAIR) {
                        firsts[c] = a * MOST_POINTS + b;
                    }
                    rank = Math.max(rank, c + 1);
                }
            }
        }

        int firstFailure() {
            int told = misplacedZero();
            if (told == 0) {
                told = missingColour();
            }
            if (told == 0) {
                told = wrongReversal();
            }
            if (told == 0) {
                told = wrongCounts();
            }
            return told;
        }

        static int failureAt(int kind, int a, int b) {
            return 100 * kind + 10 * a + b;
        }

        int misplacedZero() {
            for (int a = 0; a < size; a++) {
                for (int b = 0; b < size; b++) {
                    if ((colourOf(a, b) == 0) != (a == b)) {
                        return failureAt(1, a, b);
                    }
                }
            }
            return 0;
        }

        int missingColour() {
            for (int c = 0; c < rank; c++) {
                if (firsts[c] == NO_PAIR) {
                    return failureAt(2, 0, 0);
                }
            }
            return 0;
        }

        int wrongReversal() {
            for (int a = 0; a < size; a++) {
                for (int b = 0; b < size; b++) {
                    if (colourOf(b, a) != reverseOf(colourOf(a, b))) {
                        return failureAt(3, a, b);
                    }
                }
            }
            return 0;
        }

        // The first pair of a colour is met before its others, so its counts become the numbers
        // to which those of the others are held.
        int wrongCounts() {
            for (int a = 0; a < size; a++) {
                for (int b = 0; b < size; b++) {
                    int k = colourOf(a, b);
                    countBetween(a, b);
                    if (firsts[k] == a * MOST_POINTS + b) {
                        keepCounts(k);
                    } else if (!countsAreKept(k)) {
                        return failureAt(4, a, b);
                    }
                }
            }
            return 0;
        }

        void countBetween(int a, int b) {
            for (int ij = 0; ij < COLOURS * COLOURS; ij++) {
                counts[ij] = 0;
            }
            for (int e = 0; e < size; e++) {
                counts[colourOf(a, e) * COLOURS + colourOf(e, b)]++;
            }
        }

        void keepCounts(int k) {
            for (int ij = 0; ij < COLOURS * COLOURS; ij++) {
                numbers[k * COLOURS * COLOURS + ij] = counts[ij];
            }
        }

        boolean countsAreKept(int k) {
            for (int ij = 0; ij < COLOURS * COLOURS; ij++) {
                if (numbers[k * COLOURS * COLOURS + ij] != counts[ij]) {
                    return false;
                }
            }
            return true;
        }

        // All that follows is asked of an even colouring and of colours below its rank;
        // reverseOf serves the search for failures too, once every colour has a first pair.

        int reverseOf(int i) {
            int pair = firsts[i];
            if (pair == NO_PAIR) {
                return 0;
            }
            return colourOf(pair % MOST_POINTS, pair / MOST_POINTS);
        }

        int numberOf(int i, int j, int k) {
            return numbers[(k * COLOURS + i) * COLOURS + j];
        }

        int degreeOf(int i) {
            int pairs = 0;
            for (int b = 0; b < size; b++) {
                if (colourOf(0, b) == i) {
                    pairs++;
                }
            }
            return pairs;
        }

        boolean multipliesEitherWay() {
            for (int i = 0; i < rank; i++) {
                for (int j = 0; j < i; j++) {
                    for (int k = 0; k < rank; k++) {
                        if (numberOf(i, j, k) != numberOf(j, i, k)) {
                            return false;
                        }
                    }
                }
            }
            return true;
        }

        static boolean has(int set, int i) {
            return (set >> i & 1) == 1;
        }

        boolean isClosed(int set) {
            return has(set, 0) && (productsOf(set) & ~set) == 0;
        }

        int productsOf(int set) {
            int products = 0;
            for (int i = 0; i < rank; i++) {
                for (int j = 0; j < rank; j++) {
                    if (has(set, i) && has(set, j)) {
                        products |= productsOfTwo(i, j);
                    }
                }
            }
            return products;
        }

        int productsOfTwo(int i, int j) {
            int products = 0;
            for (int k = 0; k < rank; k++) {
                if (numberOf(i, j, k) > 0) {
                    products |= 1 << k;
                }
            }
            return products;
        }

        // Every round adds a colour or changes nothing any more, so as many rounds as there are
        // colours are enough.
        int hullOf(int set) {
            int hull = set | 1;
            for (int round = 0; round < rank; round++) {
                hull |= productsOf(hull);
            }
            return hull;
        }

        int closedSets() {
            int closedOnes = 0;
            for (int set = 0; set < 1 << rank; set++) {
                if (isClosed(set)) {
                    closedOnes++;
                }
            }
            return closedOnes;
        }

        int orderOf(int set) {
            int together = 0;
            for (int i = 0; i < rank; i++) {
                if (has(set, i)) {
                    together += degreeOf(i);
                }
            }
            return together;
        }
    }

    /** Makes the quotient of an even colouring by a closed set. */
    private static final class Division {
        private static final int NO_COLOUR = -1;

        final int[] blocks;
        final int[] leasts;
        final int[] between;
        int size;

        Division() {
            blocks = new int[MOST_POINTS];
            leasts = new int[COLOURS];
            between = new int[MOST_POINTS * MOST_POINTS];
            size = 0;
        }

        void divide(Colouring from, int set, Colouring to) {
            findBlocks(from, set);
            joinColours(from);
            to.size = size;
            for (int a = 0; a < from.size; a++) {
                for (int b = 0; b < from.size; b++) {
                    to.paint(blocks[a], blocks[b], kindOf(from.colourOf(a, b)));
                }
            }
            to.measure();
        }

        void findBlocks(Colouring from, int set) {
            size = 0;
            for (int b = 0; b < from.size; b++) {
                blocks[b] = size;
                for (int a = 0; a < b; a++) {
                    if (Colouring.has(set, from.colourOf(a, b))) {
                        blocks[b] = blocks[a];
                    }
                }
                if (blocks[b] == size) {
                    size++;
                }
            }
        }

        // leasts[c] becomes the least colour that is one with c.
        void joinColours(Colouring from) {
            for (int c = 0; c < COLOURS; c++) {
                leasts[c] = c;
            }
            for (int pair = 0; pair < MOST_POINTS * MOST_POINTS; pair++) {
                between[pair] = NO_COLOUR;
            }
            for (int a = 0; a < from.size; a++) {
                for (int b = 0; b < from.size; b++) {
                    int pair = blocks[a] * MOST_POINTS + blocks[b];
                    if (between[pair] == NO_COLOUR) {
                        between[pair] = from.colourOf(a, b);
                    } else {
                        join(leasts[between[pair]], leasts[from.colourOf(a, b)]);
                    }
                }
            }
        }

        void join(int one, int other) {
            int less = Math.min(one, other);
            for (int c = 0; c < COLOURS; c++) {
                if (leasts[c] == one || leasts[c] == other) {
                    leasts[c] = less;
                }
            }
        }

        int kindOf(int colour) {
            int kind = 0;
            for (int c = 0; c < leasts[colour]; c++) {
                if (leasts[c] == c) {
                    kind++;
                }
            }
            return kind;
        }
    }

    /**
     * Walks as whole numbers of ways. A step of colour c has its weight times (multiple by degree
     * of c) ways to each point that the colour leads to, so that every step out of a point has
     * the same number of ways in all. At most (45 * 12) to the 6 ways: a long holds them.
     */
    private static final class Walk {
        private static final int MOST_DIVISIONS = 200;

        final long[] shares;
        final long[] ways;
        final long[] nextWays;
        long all;

        Walk() {
            shares = new long[COLOURS];
            ways = new long[MOST_POINTS];
            nextWays = new long[MOST_POINTS];
            all = 1;
        }

        void go(Colouring colouring, int[] weights, int steps) {
            long waysOfStep = share(colouring, weights);
            for (int a = 0; a < MOST_POINTS; a++) {
                ways[a] = a == 0 ? 1 : 0;
            }
            all = 1;
            for (int t = 0; t < steps; t++) {
                step(colouring);
                all *= waysOfStep;
            }
        }

        long share(Colouring colouring, int[] weights) {
            long multiple = 1;
            for (int c = 0; c < colouring.rank; c++) {
                multiple = commonMultiple(multiple, colouring.degreeOf(c));
            }
            long together = 0;
            for (int c = 0; c < colouring.rank; c++) {
                int degree = colouring.degreeOf(c);
                shares[c] = degree == 0 ? 0 : weights[c] * (multiple / degree);
                together += weights[c];
            }
            return together * multiple;
        }

        void step(Colouring colouring) {
            for (int b = 0; b < colouring.size; b++) {
                nextWays[b] = 0;
                for (int a = 0; a < colouring.size; a++) {
                    nextWays[b] += ways[a] * shares[colouring.colourOf(a, b)];
                }
            }
            for (int b = 0; b < colouring.size; b++) {
                ways[b] = nextWays[b];
            }
        }

        long waysTo(Colouring colouring, int i) {
            long together = 0;
            for (int b = 0; b < colouring.size; b++) {
                if (colouring.colourOf(0, b) == i) {
                    together += ways[b];
                }
            }
            return together;
        }

        static long commonMultiple(long one, long other) {
            long common = commonDivisor(one, other);
            return common == 0 ? 0 : one / common * other;
        }

        static long commonDivisor(long one, long other) {
            long greater = one;
            long less = other;
            for (int i = 0; i < MOST_DIVISIONS && less != 0; i++) {
                long rest = greater % less;
                greater = less;
                less = rest;
            }
            return greater;
        }
    }

    /** The conditions on strict tables: n points, k neighbours, l and m common ones. */
    private static final class Sieve {
        private static final int NO_ROOT = -1;

        static int firstFailure(int n, int k, int l, int m) {
            if (k * (k - l - 1) != (n - k - 1) * m) {
                return 1;
            }
            int d = (l - m) * (l - m) + 4 * (k - m);
            int c = 2 * k + (n - 1) * (l - m);
            if (d <= 0) {
                return 2;
            }
            if (c == 0) {
                return n % 2 == 0 ? 2 : 0;
            }
            int root = wholeRoot(d);
            if (root <= 0 || c % root != 0 || (n - 1 + c / root) % 2 != 0) {
                return 2;
            }
            int r = (l - m + root) / 2;
            int s = (l - m - root) / 2;
            if (breaksBound(k, r, s) || breaksBound(k, s, r)) {
                return 3;
            }
            int f = (n - 1 - c / root) / 2;
            int g = (n - 1 + c / root) / 2;
            boolean bounded = m > 0 && m < k;
            return bounded && (2 * n > f * (f + 3) || 2 * n > g * (g + 3)) ? 4 : 0;
        }

        static boolean breaksBound(int k, int r, int s) {
            return (r + 1) * (k + r + 2 * r * s) > (k + r) * (s + 1) * (s + 1);
        }

        // No d within the sieve's limits has a root above MOST_TABLE.
        static int wholeRoot(int d) {
            for (int root = 0; root <= MOST_TABLE; root++) {
                if (root * root == d) {
                    return root;
                }
            }
            return NO_ROOT;
        }
    }
}
