import java.math.BigInteger;
import java.util.ArrayList;
import java.util.List;
import java.util.Random;

/**
 * Long runs of calls, each answer held against a plain model that goes by the document's words: all
 * rings, all heaps, and weights made better until they stand still.
 */
public final class PairScalesAgainstPlain {
    private static final int RUNS = 400;
    private static final int CALLS = 512;
    private static final int NONE = PairScales.NONE;

    /** A fraction in lowest terms, without a limit. */
    private record Ratio(BigInteger top, BigInteger bottom) implements Comparable<Ratio> {
        static final Ratio ONE = of(1, 1);

        static Ratio of(long top, long bottom) {
            return lowest(BigInteger.valueOf(top), BigInteger.valueOf(bottom));
        }

        static Ratio lowest(BigInteger top, BigInteger bottom) {
            BigInteger divisor = top.gcd(bottom);
            return new Ratio(top.divide(divisor), bottom.divide(divisor));
        }

        Ratio times(Ratio that) {
            return lowest(top.multiply(that.top), bottom.multiply(that.bottom));
        }

        Ratio inverse() {
            return new Ratio(bottom, top);
        }

        Ratio off() {
            return compareTo(ONE) < 0 ? inverse() : this;
        }

        Ratio power(int exponent) {
            return new Ratio(top.pow(exponent), bottom.pow(exponent));
        }

        int part(int what) {
            return (what == 0 ? top : bottom).intValueExact();
        }

        @Override
        public int compareTo(Ratio that) {
            return top.multiply(that.bottom).compareTo(that.top.multiply(bottom));
        }
    }

    /** A ring: what it is off, how many things it has, and its sayings as a heap. */
    private record Ring(Ratio off, int size, int heap) {}

    private static final class Plain {
        final int n;
        final Ratio[][] said;
        final Ratio[][] low;
        final int[][] pair;
        private List<Ring> rings;
        private int left;

        Plain(int things) {
            n = things < 2 ? 2 : things > 6 ? 6 : things;
            said = new Ratio[n][n];
            low = new Ratio[n][n];
            pair = new int[n][n];
            int number = 0;
            for (int i = 0; i < n; i++) {
                for (int j = i + 1; j < n; j++) {
                    pair[i][j] = number;
                    pair[j][i] = number;
                    number++;
                }
            }
        }

        boolean isPair(int i, int j) {
            return isThing(i) && isThing(j) && i != j;
        }

        boolean isThing(int i) {
            return i >= 0 && i < n;
        }

        static boolean digits(int... numbers) {
            for (int number : numbers) {
                if (number < 1 || number > 9) {
                    return false;
                }
            }
            return true;
        }

        boolean say(int i, int j, int p, int q) {
            if (!isPair(i, j) || !digits(p, q)) {
                return false;
            }
            said[i][j] = Ratio.of(p, q);
            said[j][i] = Ratio.of(q, p);
            rings = null;
            return true;
        }

        boolean unsay(int i, int j) {
            if (!isPair(i, j) || said[i][j] == null) {
                return false;
            }
            said[i][j] = null;
            said[j][i] = null;
            rings = null;
            return true;
        }

        int said(int i, int j, int what) {
            return isPair(i, j) && said[i][j] != null && (what == 0 || what == 1) ? said[i][j].part(what) : NONE;
        }

        List<Ring> rings() {
            if (rings == null) {
                rings = new ArrayList<>();
                for (int i = 0; i < n; i++) {
                    gather(new int[] {i}, Ratio.ONE, 0);
                }
                left = leastHeap();
            }
            return rings;
        }

        /** All rows of things, so that each ring comes from each start and both ways. */
        private void gather(int[] row, Ratio product, int heap) {
            int last = row[row.length - 1];
            if (row.length >= 3 && said[last][row[0]] != null) {
                Ratio off = product.times(said[last][row[0]]).off();
                rings.add(new Ring(off, row.length, heap | 1 << pair[last][row[0]]));
            }
            for (int next = 0; next < n; next++) {
                boolean fresh = true;
                for (int passed : row) {
                    fresh &= passed != next;
                }
                if (fresh && said[last][next] != null) {
                    int[] longer = java.util.Arrays.copyOf(row, row.length + 1);
                    longer[row.length] = next;
                    gather(longer, product.times(said[last][next]), heap | 1 << pair[last][next]);
                }
            }
        }

        int sayings() {
            int heap = 0;
            for (int i = 0; i < n; i++) {
                for (int j = i + 1; j < n; j++) {
                    heap |= said[i][j] == null ? 0 : 1 << pair[i][j];
                }
            }
            return heap;
        }

        /** Out of each ring that is off, one saying at least must be left out. */
        private int leastHeap() {
            int[] uneven = rings.stream().filter(ring -> !ring.off.equals(Ratio.ONE)).mapToInt(Ring::heap)
                .distinct().toArray();
            int all = sayings();
            int best = all;
            for (int heap = 0; heap <= all; heap++) {
                if ((heap & ~all) == 0 && Integer.bitCount(heap) < Integer.bitCount(best)
                        && meetsEach(heap, uneven)) {
                    best = heap;
                }
            }
            return best;
        }

        private static boolean meetsEach(int heap, int[] others) {
            for (int other : others) {
                if ((heap & other) == 0) {
                    return false;
                }
            }
            return true;
        }

        boolean even() {
            return rings().stream().allMatch(ring -> ring.off.equals(Ratio.ONE));
        }

        int worst(int what) {
            int[] three = null;
            Ratio most = null;
            for (int i = 0; i < n; i++) {
                for (int j = i + 1; j < n; j++) {
                    for (int k = j + 1; k < n; k++) {
                        if (said[i][j] != null && said[j][k] != null && said[i][k] != null) {
                            Ratio off = said[i][j].times(said[j][k]).times(said[k][i]).off();
                            if (most == null || off.compareTo(most) > 0) {
                                three = new int[] {i, j, k};
                                most = off;
                            }
                        }
                    }
                }
            }
            if (most == null || what < 0 || what > 4) {
                return NONE;
            }
            return what < 3 ? three[what] : most.part(what - 3);
        }

        int trees() {
            int trees = 0;
            int all = sayings();
            for (int heap = 0; heap <= all; heap++) {
                if ((heap & ~all) == 0 && Integer.bitCount(heap) == n - 1 && joins(heap)) {
                    trees++;
                }
            }
            return trees;
        }

        private boolean joins(int heap) {
            int reached = 1;
            for (int round = 0; round < n; round++) {
                for (int i = 0; i < n; i++) {
                    for (int j = 0; j < n; j++) {
                        if (i != j && (reached >> i & 1) == 1 && (heap >> pair[i][j] & 1) == 1) {
                            reached |= 1 << j;
                        }
                    }
                }
            }
            return reached == (1 << n) - 1;
        }

        int few() {
            return Integer.bitCount(left());
        }

        int left() {
            rings();
            return left;
        }

        private Ratio row(int i) {
            Ratio product = Ratio.ONE;
            for (int j = 0; j < n; j++) {
                product = i == j ? product : product.times(said[i][j]);
            }
            return product;
        }

        private boolean allSaid() {
            return Integer.bitCount(sayings()) == n * (n - 1) / 2;
        }

        int row(int i, int what) {
            return isThing(i) && (what == 0 || what == 1) && allSaid() ? row(i).part(what) : NONE;
        }

        int order(int i, int j) {
            if (!isThing(i) || !isThing(j) || !allSaid()) {
                return NONE;
            }
            int compared = row(i).compareTo(row(j));
            return compared > 0 ? 1 : compared < 0 ? 2 : 0;
        }

        int least(int what) {
            Ring best = new Ring(Ratio.ONE, 0, 0);
            for (Ring ring : rings()) {
                if (ring.off.equals(Ratio.ONE)) {
                    continue;
                }
                int compared = best.size == 0 ? 1 : ring.off.power(best.size).compareTo(best.off.power(ring.size));
                if (compared > 0 || compared == 0 && ring.size < best.size) {
                    best = ring;
                }
            }
            return what == 2 ? best.size : what == 0 || what == 1 ? best.off.part(what) : NONE;
        }

        boolean span(int i, int j, int ends) {
            if (!isPair(i, j) || ends < 1111 || ends > 9999) {
                return false;
            }
            int p = ends / 1000;
            int q = ends / 100 - 10 * p;
            int r = ends / 10 - 100 * p - 10 * q;
            int s = ends - 1000 * p - 100 * q - 10 * r;
            if (!digits(p, q, r, s) || Ratio.of(p, q).compareTo(Ratio.of(r, s)) > 0) {
                return false;
            }
            low[i][j] = Ratio.of(p, q);
            low[j][i] = Ratio.of(s, r);
            return true;
        }

        boolean unspan(int i, int j) {
            if (!isPair(i, j) || low[i][j] == null) {
                return false;
            }
            low[i][j] = null;
            low[j][i] = null;
            return true;
        }

        /** Raises weights to what the lower ends ask; whether they stand still after so many rounds. */
        private boolean settle(Ratio[] weights) {
            boolean raised = true;
            for (int round = 0; round <= n && raised; round++) {
                raised = false;
                for (int i = 0; i < n; i++) {
                    for (int j = 0; j < n; j++) {
                        if (low[i][j] != null && weights[j] != null) {
                            Ratio asked = low[i][j].times(weights[j]);
                            if (weights[i] == null || asked.compareTo(weights[i]) > 0) {
                                weights[i] = asked;
                                raised = true;
                            }
                        }
                    }
                }
            }
            return !raised;
        }

        boolean can() {
            Ratio[] weights = new Ratio[n];
            java.util.Arrays.fill(weights, Ratio.ONE);
            return settle(weights);
        }

        int bound(int i, int j, int what) {
            if (!isPair(i, j) || what < 0 || what > 1 || !can()) {
                return NONE;
            }
            Ratio[] weights = new Ratio[n];
            weights[j] = Ratio.ONE;
            settle(weights);
            return weights[i] == null ? NONE : weights[i].part(what);
        }

        int count(int what) {
            if (what == 0) {
                return n;
            }
            if (what != 1 && what != 2) {
                return NONE;
            }
            int held = 0;
            for (int i = 0; i < n; i++) {
                for (int j = i + 1; j < n; j++) {
                    held += (what == 1 ? said : low)[i][j] == null ? 0 : 1;
                }
            }
            return held;
        }
    }

    private final Random random;
    private final int things;
    private final PairScales real;
    private final Plain plain;
    /** Runs differ in how often a saying goes by these weights, and how often a thing is none. */
    private final int[] weights;
    private final int honest;
    private final StringBuilder told = new StringBuilder();

    private PairScalesAgainstPlain(int seed) {
        random = new Random(seed);
        things = seed % 40 == 0 ? random.nextInt() : seed % 3 == 0 ? 6 : 2 + seed % 5;
        real = new PairScales(things);
        plain = new Plain(things);
        weights = new int[plain.n];
        for (int i = 0; i < plain.n; i++) {
            weights[i] = new int[] {1, 2, 3, 4, 6, 8, 9}[random.nextInt(7)];
        }
        honest = new int[] {0, 50, 80, 95}[random.nextInt(4)];
    }

    private int thing() {
        return random.nextInt(30) == 0 ? random.nextInt(12) - 3 : random.nextInt(plain.n);
    }

    private int digit() {
        return random.nextInt(60) == 0 ? random.nextInt(16) - 3 : 1 + random.nextInt(9);
    }

    private int ends(int i, int j) {
        if (plain.isPair(i, j) && random.nextInt(100) < honest) {
            int p = weights[i];
            int q = weights[j];
            return Math.max(1, p - random.nextInt(3)) * 1000 + Math.min(9, q + random.nextInt(2)) * 100
                + Math.min(9, p + random.nextInt(3)) * 10 + Math.max(1, q - random.nextInt(2));
        }
        return random.nextInt(50) == 0 ? random.nextInt() : digit() * 1000 + digit() * 100 + digit() * 10 + digit();
    }

    private boolean same(String call, Object got, Object want) {
        told.append(call).append(" = ").append(got).append('\n');
        if (!got.equals(want)) {
            System.out.println("things " + things + "\n" + told + "due is " + want);
            return false;
        }
        return true;
    }

    private boolean change(int i, int j) {
        int kind = random.nextInt(20);
        if (kind < 10) {
            boolean byWeights = plain.isPair(i, j) && random.nextInt(100) < honest;
            int p = byWeights ? weights[i] : digit();
            int q = byWeights ? weights[j] : digit();
            return same("say(" + i + ", " + j + ", " + p + ", " + q + ")", real.say(i, j, p, q), plain.say(i, j, p, q));
        }
        if (kind < 12) {
            return same("unsay(" + i + ", " + j + ")", real.unsay(i, j), plain.unsay(i, j));
        }
        if (kind < 17) {
            int ends = ends(i, j);
            return same("span(" + i + ", " + j + ", " + ends + ")", real.span(i, j, ends), plain.span(i, j, ends));
        }
        return same("unspan(" + i + ", " + j + ")", real.unspan(i, j), plain.unspan(i, j));
    }

    private boolean ask(int i, int j) {
        int what = random.nextInt(6) - (random.nextInt(5) == 0 ? 1 : 0);
        int part = random.nextInt(20) == 0 ? what : random.nextInt(2);
        String pair = "(" + i + ", " + j + ", " + part + ")";
        switch (random.nextInt(13)) {
            case 0:
                return same("said" + pair, real.said(i, j, part), plain.said(i, j, part));
            case 1:
                return same("even()", real.even(), plain.even());
            case 2:
                return same("worst(" + what + ")", real.worst(what), plain.worst(what));
            case 3:
                return same("trees()", real.trees(), plain.trees());
            case 4:
                return same("few()", real.few(), plain.few());
            case 5:
                return same("left()", real.left(), plain.left());
            case 6:
                return same("row(" + i + ", " + part + ")", real.row(i, part), plain.row(i, part));
            case 7:
                return same("order(" + i + ", " + j + ")", real.order(i, j), plain.order(i, j));
            case 8:
            case 9:
                return same("least(" + what + ")", real.least(what), plain.least(what));
            case 10:
                return same("can()", real.can(), plain.can());
            case 11:
                return same("bound" + pair, real.bound(i, j, part), plain.bound(i, j, part));
            default:
                return same("count(" + what + ")", real.count(what), plain.count(what));
        }
    }

    private boolean run() {
        for (int call = 0; call < CALLS; call++) {
            // Changes come first, so that most pairs are held while it is asked.
            boolean changes = random.nextInt(100) < (call < 60 ? 80 : 12);
            int i = thing();
            int j = thing();
            if (!(changes ? change(i, j) : ask(i, j))) {
                return false;
            }
        }
        return true;
    }

    public static void main(String[] args) {
        int wrong = 0;
        for (int seed = 1; seed <= RUNS && wrong < 3; seed++) {
            if (!new PairScalesAgainstPlain(seed).run()) {
                System.out.println("in the run of seed " + seed);
                wrong++;
            }
        }
        System.out.println(wrong == 0 ? "all answers are as due" : wrong + " runs are not as due");
        if (wrong != 0) {
            System.exit(1);
        }
    }
}
