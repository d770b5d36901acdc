import java.util.Arrays;

/**
 * Things held two by two: what is said of one over another, whether the sayings agree, and what is
 * sure where they lie between ends.
 *
 * <p>Fractions are longs (see {@link Fraction}), so that no call makes objects for them.
 */
public final class PairScales {
    public static final int NONE = -1;

    private static final int FEWEST_THINGS = 2;
    private static final int MOST_THINGS = 6;
    private static final int GREATEST_DIGIT = 9;
    private static final int FEWEST_IN_RING = 3;

    private final int things;
    private final Table sayings;
    private final Table spans;
    private final WorstThree worstThree;
    private final Rings rings;
    private final TreeCount treeCount;
    private final Leaving leaving;
    private final Roots roots;

    public PairScales(int things) {
        this.things = Math.max(FEWEST_THINGS, Math.min(MOST_THINGS, things));
        this.sayings = new Table(this.things);
        this.spans = new Table(this.things);
        this.worstThree = new WorstThree(this.things);
        this.rings = new Rings(this.things);
        this.treeCount = new TreeCount(this.things);
        this.leaving = new Leaving(this.things);
        this.roots = new Roots();
    }

    public boolean say(int i, int j, int p, int q) {
        if (!sayings.isPair(i, j) || !isDigit(p) || !isDigit(q)) {
            return false;
        }
        long saying = Fraction.of(p, q);
        sayings.put(i, j, saying, saying);
        return true;
    }

    public boolean unsay(int i, int j) {
        return sayings.drop(i, j);
    }

    public int said(int i, int j, int what) {
        if (!isPart(what) || !sayings.holds(i, j)) {
            return NONE;
        }
        return Fraction.part(sayings.low(i, j), what);
    }

    public boolean even() {
        return rings.noneAboveOne(sayings);
    }

    public int worst(int what) {
        if (what < 0 || what > 4) {
            return NONE;
        }
        worstThree.find(sayings);
        if (worstThree.off == Fraction.NOTHING) {
            return NONE;
        }
        switch (what) {
            case 0:
                return worstThree.i;
            case 1:
                return worstThree.j;
            case 2:
                return worstThree.k;
            default:
                return Fraction.part(worstThree.off, what - 3);
        }
    }

    public int trees() {
        return treeCount.of(sayings);
    }

    public int few() {
        leaving.search(sayings);
        return leaving.fewest;
    }

    public int left() {
        leaving.search(sayings);
        return leaving.leastHeap;
    }

    public int row(int i, int what) {
        if (!isPart(what) || !sayings.isThing(i) || !sayings.isFull()) {
            return NONE;
        }
        return Fraction.part(productOfRow(i), what);
    }

    public int order(int i, int j) {
        if (!sayings.isThing(i) || !sayings.isThing(j) || !sayings.isFull()) {
            return NONE;
        }
        long ofI = productOfRow(i);
        long ofJ = productOfRow(j);
        if (Fraction.isAbove(ofI, ofJ)) {
            return 1;
        }
        return Fraction.isAbove(ofJ, ofI) ? 2 : 0;
    }

    public int least(int what) {
        if (what < 0 || what > 2) {
            return NONE;
        }
        int size = sizeOfGreatestRoot();
        if (what == 2) {
            return size;
        }
        return size == 0 ? 1 : Fraction.part(rings.greatest[size], what);
    }

    public boolean span(int i, int j, int ends) {
        int p = ends / 1000;
        int q = ends / 100 % 10;
        int r = ends / 10 % 10;
        int s = ends % 10;
        if (!spans.isPair(i, j) || !isDigit(p) || !isDigit(q) || !isDigit(r) || !isDigit(s)) {
            return false;
        }
        long low = Fraction.of(p, q);
        long high = Fraction.of(r, s);
        if (Fraction.isAbove(low, high)) {
            return false;
        }
        spans.put(i, j, low, high);
        return true;
    }

    public boolean unspan(int i, int j) {
        return spans.drop(i, j);
    }

    public boolean can() {
        return rings.noneAboveOne(spans);
    }

    public int bound(int i, int j, int what) {
        if (!isPart(what) || !spans.isPair(i, j) || !rings.noneAboveOne(spans)) {
            return NONE;
        }
        long way = greatestWay(i, j, 1 << i, 1, Fraction.ONE);
        return way == Fraction.NOTHING ? NONE : Fraction.part(way, what);
    }

    public int count(int what) {
        switch (what) {
            case 0:
                return things;
            case 1:
                return sayings.filled;
            case 2:
                return spans.filled;
            default:
                return NONE;
        }
    }

    private static boolean isDigit(int number) {
        return number >= 1 && number <= GREATEST_DIGIT;
    }

    private static boolean isPart(int what) {
        return what == 0 || what == 1;
    }

    private long productOfRow(int i) {
        long product = Fraction.ONE;
        for (int j = 0; j < things; j++) {
            if (sayings.holds(i, j)) {
                product = Fraction.times(product, sayings.low(i, j));
            }
        }
        return product;
    }

    /** How many things the ring of the greatest root has; 0 if no ring is off. */
    private int sizeOfGreatestRoot() {
        rings.measure(sayings);
        int best = 0;
        for (int size = FEWEST_IN_RING; size <= things; size++) {
            long off = rings.greatest[size];
            // A like root of more things doesn't take the place.
            if (Fraction.isAbove(off, Fraction.ONE)
                    && (best == 0 || roots.isAbove(off, size, rings.greatest[best], best))) {
                best = size;
            }
        }
        return best;
    }

    /** The greatest product of lower ends from here on to the goal; NOTHING if there is no way. */
    private long greatestWay(int at, int goal, int passed, int length, long product) {
        if (at == goal) {
            return product;
        }
        long best = Fraction.NOTHING;
        if (length >= things) {
            return best;
        }
        for (int next = 0; next < things; next++) {
            if ((passed >> next & 1) == 0 && spans.holds(at, next)) {
                long longer = Fraction.times(product, spans.low(at, next));
                long way = greatestWay(next, goal, passed | 1 << next, length + 1, longer);
                if (Fraction.isAbove(way, best)) {
                    best = way;
                }
            }
        }
        return best;
    }

    /**
     * Fractions as longs: the top in the upper half, the bottom in the lower one. At most six
     * fractions of digits are ever multiplied, so that both stay below 2 to the 20th and products
     * of two of them fit; therefore they are brought to lowest terms only when they are told.
     */
    private static final class Fraction {
        /** 0 by 1: stands for no fraction, and is below each real one. */
        static final long NOTHING = 1L;
        static final long ONE = 1L << 32 | 1L;

        private static final int EUCLID_STEPS = 100;

        static long of(long top, long bottom) {
            return top << 32 | bottom;
        }

        static long top(long fraction) {
            return fraction >>> 32;
        }

        static long bottom(long fraction) {
            return fraction & 0xFFFFFFFFL;
        }

        static long times(long a, long b) {
            return of(top(a) * top(b), bottom(a) * bottom(b));
        }

        static long inverse(long fraction) {
            return of(bottom(fraction), top(fraction));
        }

        static boolean isAbove(long a, long b) {
            return top(a) * bottom(b) > top(b) * bottom(a);
        }

        /** In lowest terms, the top for 0, the bottom for others. */
        static int part(long fraction, int what) {
            long part = what == 0 ? top(fraction) : bottom(fraction);
            long divisor = commonDivisor(top(fraction), bottom(fraction));
            return (int) (divisor > 1 ? part / divisor : part);
        }

        private static long commonDivisor(long a, long b) {
            long greater = a;
            long rest = b;
            for (int step = 0; step < EUCLID_STEPS && rest != 0; step++) {
                long next = greater % rest;
                greater = rest;
                rest = next;
            }
            return greater;
        }
    }

    /**
     * What is held of pairs, as the lower end of each thing over each other one. A saying is a
     * span both ends of which are one, so that sayings and spans are held alike.
     */
    private static final class Table {
        private final int things;
        private final long[][] lows;
        private int filled;

        Table(int things) {
            this.things = things;
            this.lows = new long[things][things];
            for (int i = 0; i < things; i++) {
                Arrays.fill(this.lows[i], Fraction.NOTHING);
            }
        }

        boolean isThing(int i) {
            return i >= 0 && i < things;
        }

        boolean isPair(int i, int j) {
            return isThing(i) && isThing(j) && i != j;
        }

        boolean holds(int i, int j) {
            return isPair(i, j) && lows[i][j] != Fraction.NOTHING;
        }

        boolean isFull() {
            return filled == things * (things - 1) / 2;
        }

        long low(int i, int j) {
            return isPair(i, j) ? lows[i][j] : Fraction.NOTHING;
        }

        void put(int i, int j, long low, long high) {
            if (!isPair(i, j)) {
                return;
            }
            if (!holds(i, j)) {
                filled++;
            }
            lows[i][j] = low;
            lows[j][i] = Fraction.inverse(high);
        }

        boolean drop(int i, int j) {
            if (!holds(i, j)) {
                return false;
            }
            filled--;
            lows[i][j] = Fraction.NOTHING;
            lows[j][i] = Fraction.NOTHING;
            return true;
        }
    }

    /** The three things that are off most, and by how much; NOTHING if no three are all said. */
    private static final class WorstThree {
        private final int things;
        private int i;
        private int j;
        private int k;
        private long off;

        WorstThree(int things) {
            this.things = things;
        }

        void find(Table sayings) {
            off = Fraction.NOTHING;
            for (int first = 0; first < things; first++) {
                for (int second = first + 1; second < things; second++) {
                    for (int third = second + 1; third < things; third++) {
                        compare(sayings, first, second, third);
                    }
                }
            }
        }

        /** Only a greater one takes the place, so that of like ones the first one stays. */
        private void compare(Table sayings, int first, int second, int third) {
            long offOfThese = offOf(sayings, first, second, third);
            if (Fraction.isAbove(offOfThese, off)) {
                i = first;
                j = second;
                k = third;
                off = offOfThese;
            }
        }

        private static long offOf(Table sayings, int first, int second, int third) {
            if (!sayings.holds(first, second)
                    || !sayings.holds(second, third)
                    || !sayings.holds(third, first)) {
                return Fraction.NOTHING;
            }
            long product = Fraction.times(sayings.low(first, second), sayings.low(second, third));
            product = Fraction.times(product, sayings.low(third, first));
            return Fraction.isAbove(Fraction.ONE, product) ? Fraction.inverse(product) : product;
        }
    }

    /**
     * The greatest products of rings. Each ring is gone both ways; of sayings, the greater one of
     * the two products is what the ring is off.
     */
    private static final class Rings {
        private final int things;
        /** By how many things the rings have; NOTHING where there is none. */
        private final long[] greatest;

        Rings(int things) {
            this.things = things;
            this.greatest = new long[things + 1];
        }

        boolean noneAboveOne(Table table) {
            measure(table);
            for (int size = FEWEST_IN_RING; size <= things; size++) {
                if (Fraction.isAbove(greatest[size], Fraction.ONE)) {
                    return false;
                }
            }
            return true;
        }

        void measure(Table table) {
            Arrays.fill(greatest, Fraction.NOTHING);
            for (int start = 0; start < things; start++) {
                extend(table, start, start, 1 << start, 1, Fraction.ONE);
            }
        }

        /** The start is the least thing of its rings, so that none is gone twice the same way. */
        private void extend(Table table, int start, int at, int passed, int size, long product) {
            if (size >= FEWEST_IN_RING && table.holds(at, start)) {
                close(size, Fraction.times(product, table.low(at, start)));
            }
            if (size >= things) {
                return;
            }
            for (int next = start + 1; next < things; next++) {
                if ((passed >> next & 1) == 0 && table.holds(at, next)) {
                    long longer = Fraction.times(product, table.low(at, next));
                    extend(table, start, next, passed | 1 << next, size + 1, longer);
                }
            }
        }

        private void close(int size, long product) {
            if (size < greatest.length && Fraction.isAbove(product, greatest[size])) {
                greatest[size] = product;
            }
        }
    }

    /** Counts trees by Kirchhoff's theorem: as a determinant, which is held in whole numbers. */
    private static final class TreeCount {
        private final int size;
        private final int[][] matrix;

        TreeCount(int things) {
            this.size = things - 1;
            this.matrix = new int[things - 1][things - 1];
        }

        int of(Table sayings) {
            fill(sayings);
            int before = 1;
            for (int step = 0; step < size - 1; step++) {
                int pivot = matrix[step][step];
                // No rows need be swapped: a pivot of 0 tells of things that aren't joined.
                if (pivot == 0) {
                    return 0;
                }
                eliminate(step, pivot, before);
                before = pivot;
            }
            return matrix[size - 1][size - 1];
        }

        /** The last thing has no row: it is the one that the others are to be joined with. */
        private void fill(Table sayings) {
            for (int i = 0; i < size; i++) {
                int ties = sayings.holds(i, size) ? 1 : 0;
                for (int j = 0; j < size; j++) {
                    boolean tied = sayings.holds(i, j);
                    matrix[i][j] = tied ? -1 : 0;
                    ties += tied ? 1 : 0;
                }
                matrix[i][i] = ties;
            }
        }

        /** Bareiss' step, in which each division by the pivot before leaves no rest. */
        private void eliminate(int step, int pivot, int before) {
            if (before == 0) {
                return;
            }
            for (int i = step + 1; i < size; i++) {
                for (int j = step + 1; j < size; j++) {
                    int minor = matrix[i][j] * pivot - matrix[i][step] * matrix[step][j];
                    matrix[i][j] = minor / before;
                }
            }
        }
    }

    /**
     * Finds the heap to be left out. Pairs are settled from the last one to the first one, kept
     * before left out, so that heaps come in the order of their numbers, and the first one of so
     * many is the least one.
     */
    private static final class Leaving {
        /**
         * The logarithm of each digit: how often 2, 3, 5 and 7 go into it, times 1, 64, 64 * 64 and
         * 64 * 64 * 64. In a ring none goes in as often as 32 times, so that sums are alike only if
         * the products are.
         */
        private static final int[] LOGS = {0, 0, 1, 64, 2, 4096, 65, 262144, 3, 128};

        private final int things;
        private final int pairs;
        /** The pairs' things, by number. */
        private final int[] upper;
        private final int[] lower;
        /** By how many sayings have joined two groups: each thing's group, and its worth in it. */
        private final int[][] groups;
        private final int[][] worths;
        private int fewest;
        private int leastHeap;

        Leaving(int things) {
            this.things = things;
            this.pairs = things * (things - 1) / 2;
            this.upper = new int[this.pairs];
            this.lower = new int[this.pairs];
            this.groups = new int[things][things];
            this.worths = new int[things][things];
            int pair = 0;
            for (int i = 0; i < things; i++) {
                this.groups[0][i] = i;
                for (int j = i + 1; j < things; j++) {
                    this.upper[pair] = i;
                    this.lower[pair] = j;
                    pair++;
                }
            }
        }

        void search(Table sayings) {
            fewest = pairs + 1;
            leastHeap = 0;
            settle(sayings, pairs - 1, 0, 0, 0);
        }

        private void settle(Table sayings, int pair, int joins, int heap, int size) {
            if (size >= fewest) {
                return;
            }
            if (pair < 0) {
                fewest = size;
                leastHeap = heap;
                return;
            }
            int i = upper[pair];
            int j = lower[pair];
            if (!sayings.holds(i, j)) {
                settle(sayings, pair - 1, joins, heap, size);
                return;
            }
            int log = logOf(sayings.low(i, j));
            boolean joined = groups[joins][i] == groups[joins][j];
            boolean agrees = worths[joins][i] - worths[joins][j] == log;
            if (!joined && joins + 1 < things) {
                join(joins, i, j, log);
                settle(sayings, pair - 1, joins + 1, heap, size);
            } else if (joined && agrees) {
                // It follows from those that are kept: to leave it out could not help.
                settle(sayings, pair - 1, joins, heap, size);
                return;
            }
            settle(sayings, pair - 1, joins, heap | 1 << pair, size + 1);
        }

        private void join(int joins, int i, int j, int log) {
            int kept = groups[joins][i];
            int gone = groups[joins][j];
            int shift = worths[joins][i] - log - worths[joins][j];
            for (int thing = 0; thing < things; thing++) {
                boolean moves = groups[joins][thing] == gone;
                groups[joins + 1][thing] = moves ? kept : groups[joins][thing];
                worths[joins + 1][thing] = worths[joins][thing] + (moves ? shift : 0);
            }
        }

        private static int logOf(long saying) {
            return logOfDigit(Fraction.top(saying)) - logOfDigit(Fraction.bottom(saying));
        }

        private static int logOfDigit(long digit) {
            return digit >= 0 && digit < LOGS.length ? LOGS[(int) digit] : 0;
        }
    }

    /** Compares roots of fractions exactly, by powers that don't fit in a long. */
    private static final class Roots {
        private final Big one = new Big();
        private final Big other = new Big();

        boolean isAbove(long a, int rootOfA, long b, int rootOfB) {
            one.reset();
            one.multiply(Fraction.top(a), rootOfB);
            one.multiply(Fraction.bottom(b), rootOfA);
            other.reset();
            other.multiply(Fraction.top(b), rootOfA);
            other.multiply(Fraction.bottom(a), rootOfB);
            return one.isAbove(other);
        }
    }

    /** A whole number in limbs, the lowest one first; 9 to the 60th is the greatest one needed. */
    private static final class Big {
        private static final int LIMBS = 8;
        private static final int LIMB_BITS = 30;
        private static final long LIMB_MASK = (1L << LIMB_BITS) - 1;

        private final long[] limbs = new long[LIMBS];

        void reset() {
            Arrays.fill(limbs, 0L);
            limbs[0] = 1L;
        }

        void multiply(long factor, int times) {
            for (int time = 0; time < times; time++) {
                long carry = 0L;
                for (int limb = 0; limb < LIMBS; limb++) {
                    long sum = limbs[limb] * factor + carry;
                    limbs[limb] = sum & LIMB_MASK;
                    carry = sum >>> LIMB_BITS;
                }
            }
        }

        boolean isAbove(Big that) {
            for (int limb = LIMBS - 1; limb >= 0; limb--) {
                if (limbs[limb] != that.limbs[limb]) {
                    return limbs[limb] > that.limbs[limb];
                }
            }
            return false;
        }
    }
}
