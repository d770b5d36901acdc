import java.math.BigInteger;
import java.util.ArrayList;
import java.util.HashMap;
import java.util.List;
import java.util.Map;

/**
 * Where the document says which is greatest, least or like: such as lie close together without being
 * like, each beside such as are like though other digits make them. No object is used for more than
 * 512 calls.
 */
public final class PairScalesClose extends EdgeTest {
    /** 175 by 54 and 81 by 25: no two threes are nearer to each other without being like. */
    private static final int[] MORE = {5, 9, 7, 6, 5, 1};
    private static final int[] LESS = {9, 5, 9, 5, 1, 1};
    /** 25 by 81, so that it is off as much as LESS. */
    private static final int[] LIKE_LESS = {5, 9, 5, 6, 4, 6};

    /**
     * The order that is due of two things; p, q of the first one over the second one, of the first
     * one over each other one, and of the second one over each other one. Those that are close are as
     * near as rows of so many can come; of six things, 7 by 5000 and 50 by 35721 by what one is of the
     * other, 5 by 13122 and 1 by 2625 by what is between them.
     */
    private static final int[][] ROWS = {
        {0, 7, 7},
        {1, 9, 8},
        {0, 2, 3, 9, 8, 1, 2},
        {1, 5, 4, 1, 7, 2, 9},
        {0, 7, 9, 9, 7, 9, 8, 7, 8, 1, 1},
        {1, 5, 9, 5, 9, 1, 6, 1, 5, 1, 7},
        {0, 7, 9, 9, 7, 9, 8, 5, 7, 7, 8, 5, 1, 1, 7},
        {1, 7, 5, 7, 5, 1, 5, 1, 8, 5, 9, 5, 9, 2, 9},
        {0, 7, 9, 9, 7, 9, 8, 5, 7, 6, 5, 3, 2, 4, 8, 7, 9, 9, 7},
        {1, 7, 5, 1, 5, 1, 5, 1, 5, 1, 8, 5, 9, 2, 9, 1, 9, 1, 7},
        {1, 5, 2, 1, 9, 1, 9, 1, 9, 1, 9, 1, 5, 1, 5, 1, 6, 1, 7},
        // Not close, but the tops times the bottoms don't fit in an int.
        {1, 9, 1, 9, 1, 9, 1, 9, 1, 9, 1, 1, 9, 1, 9, 1, 9, 1, 9},
    };

    /**
     * Two rings the roots of which lie close together, those of five and six by 1 in 4,000,000: of
     * the greater one and of the less one the top, the bottom and how many things; i, j that only the
     * greater one has; then all sayings as i, j, p, q. Two rings of six can't be the two greatest ones.
     */
    private static final int[][] ROOTS = {
        {175, 18, 3, 243, 25, 3, 0, 1, 0, 1, 7, 1, 0, 2, 9, 5, 0, 3, 9, 5, 0, 4, 1, 9, 1, 2, 5, 2, 3, 4, 3, 5},
        {512, 105, 3, 1323, 160, 4, 0, 4,
            0, 1, 7, 2, 0, 3, 8, 9, 0, 4, 8, 5, 0, 5, 3, 8, 1, 2, 7, 6, 2, 3, 9, 5, 4, 5, 8, 7},
        {120, 49, 3, 18225, 4096, 5, 0, 5,
            0, 1, 5, 1, 0, 4, 8, 5, 0, 5, 7, 6, 1, 2, 9, 8, 1, 5, 4, 7, 2, 3, 9, 8, 3, 4, 9, 8},
        {441, 80, 3, 4375, 144, 6, 3, 5,
            0, 1, 5, 1, 0, 5, 9, 5, 1, 2, 5, 9, 2, 3, 5, 1, 3, 4, 7, 4, 3, 5, 5, 7, 4, 5, 9, 4},
        {2560, 1323, 4, 105, 64, 3, 0, 3, 0, 1, 5, 3, 0, 3, 7, 8, 0, 4, 8, 9, 1, 2, 8, 9, 1, 4, 7, 8, 2, 3, 8, 7},
        {700, 3, 4, 5832, 25, 4, 0, 3,
            0, 1, 8, 1, 0, 3, 1, 5, 0, 5, 5, 9, 1, 2, 7, 1, 1, 4, 9, 5, 2, 3, 5, 6, 4, 5, 9, 1},
        {3456, 245, 4, 2187, 80, 5, 0, 5,
            0, 1, 9, 5, 0, 4, 7, 9, 0, 5, 7, 8, 1, 2, 6, 1, 2, 3, 7, 8, 2, 5, 8, 7, 3, 4, 9, 4},
        {600, 49, 4, 52488, 1225, 6, 0, 3,
            0, 1, 9, 7, 0, 3, 3, 5, 0, 5, 5, 9, 1, 2, 5, 7, 2, 3, 8, 1, 3, 4, 9, 5, 4, 5, 9, 5},
        {4096, 75, 5, 441, 40, 3, 0, 4,
            0, 1, 7, 1, 0, 4, 5, 8, 0, 5, 5, 9, 1, 2, 8, 3, 1, 5, 7, 8, 2, 3, 8, 7, 3, 4, 8, 5},
        {2560, 9, 5, 735, 8, 4, 0, 4,
            0, 1, 5, 1, 0, 4, 9, 8, 0, 5, 8, 7, 1, 2, 9, 1, 2, 3, 8, 3, 2, 5, 7, 3, 3, 4, 8, 3},
        {10125, 64, 5, 315, 2, 5, 0, 4,
            0, 1, 9, 2, 0, 4, 2, 5, 0, 5, 2, 7, 1, 2, 9, 2, 2, 3, 5, 2, 3, 4, 5, 4, 3, 5, 8, 9},
        {2048, 135, 5, 392, 15, 6, 0, 4,
            0, 1, 4, 3, 0, 4, 9, 8, 0, 5, 4, 7, 1, 2, 8, 3, 2, 3, 9, 5, 3, 4, 8, 3, 4, 5, 7, 8},
        {3087, 64, 6, 125, 18, 3, 1, 2,
            0, 1, 5, 2, 0, 5, 1, 5, 1, 2, 7, 4, 1, 5, 5, 9, 2, 3, 9, 5, 3, 4, 7, 5, 4, 5, 7, 8},
        {75, 56, 6, 243, 200, 4, 0, 1,
            0, 1, 5, 9, 0, 5, 7, 5, 1, 2, 5, 3, 2, 3, 9, 1, 2, 5, 5, 3, 3, 4, 9, 5, 4, 5, 1, 8},
        {120, 49, 6, 135, 64, 5, 0, 5,
            0, 1, 2, 9, 0, 4, 8, 9, 0, 5, 7, 8, 1, 2, 6, 1, 2, 3, 5, 8, 3, 4, 9, 4, 4, 5, 8, 7},
    };

    /** A product of sayings, in lowest terms, and sayings that make it. */
    private record Product(int top, int bottom, int[] sayings) {
        static Product of(int... sayings) {
            int top = 1;
            int bottom = 1;
            for (int k = 0; k < sayings.length; k += 2) {
                top *= sayings[k];
                bottom *= sayings[k + 1];
            }
            return new Product(lowest(top, bottom), lowest(bottom, top), sayings);
        }

        int size() {
            return sayings.length / 2;
        }

        int compareTo(Product that) {
            return Long.compare((long) top * that.bottom, (long) that.top * bottom);
        }

        int compareRootTo(Product that) {
            BigInteger one = power(top, that.size()).multiply(power(that.bottom, size()));
            return one.compareTo(power(that.top, size()).multiply(power(bottom, that.size())));
        }

        private static BigInteger power(int number, int times) {
            return BigInteger.valueOf(number).pow(times);
        }
    }

    /** All products of so many sayings, from the least one to the greatest one. */
    private static List<Product> products(int size) {
        Map<String, Product> found = new HashMap<>();
        List<Product> shorter = size == 1 ? List.of(Product.of()) : products(size - 1);
        for (Product product : shorter) {
            for (int p = 1; p <= 9; p++) {
                for (int q = 1; q <= 9; q++) {
                    Product longer = Product.of(join(product.sayings, p, q));
                    found.putIfAbsent(longer.top + " by " + longer.bottom, longer);
                }
            }
        }
        List<Product> products = new ArrayList<>(found.values());
        products.sort(Product::compareTo);
        return products;
    }

    private static List<Product> productsAboveOne(int size) {
        List<Product> above = products(size);
        above.removeIf(product -> product.top <= product.bottom);
        return above;
    }

    private static int[] join(int[] sayings, int... more) {
        int[] joined = java.util.Arrays.copyOf(sayings, sayings.length + more.length);
        System.arraycopy(more, 0, joined, sayings.length, more.length);
        return joined;
    }

    /** The same product of other sayings: each bottom goes to the next one. */
    private static int[] otherDigits(int[] sayings) {
        int[] other = sayings.clone();
        for (int k = 1; k < sayings.length; k += 2) {
            other[(k + 2) % sayings.length] = sayings[k];
        }
        return other;
    }

    /** Each thing of a round over the next one, and the last one over the first one. */
    private static void sayRound(PairScales x, int[] round, int... sayings) {
        for (int k = 0; k < round.length; k++) {
            x.say(round[k], round[(k + 1) % round.length], sayings[2 * k], sayings[2 * k + 1]);
        }
    }

    private static void dueWorstOfTwo(int[] one, int[] other, int[] three, Product off) {
        int[] first = {0, 1, 2};
        int[] second = {3, 4, 5};
        PairScales x = new PairScales(6);
        sayRound(x, first, one);
        sayRound(x, second, other);
        dueWorst(x, three, off.top, off.bottom);
        sayRound(x, first, turned(one));
        dueWorst(x, three, off.top, off.bottom);
        sayRound(x, second, turned(other));
        dueWorst(x, three, off.top, off.bottom);
    }

    private static void eachThreeBesideTheNext() {
        sentence("Promise 6, 'off most', of three beside the next greater ones that there are");
        int[] first = {0, 1, 2};
        int[] second = {3, 4, 5};
        Product before = Product.of(1, 1, 1, 1, 1, 1);
        for (Product off : productsAboveOne(3)) {
            dueWorstOfTwo(before.sayings, off.sayings, second, off);
            dueWorstOfTwo(off.sayings, before.sayings, first, off);
            dueWorstOfTwo(off.sayings, otherDigits(off.sayings), first, off);
            dueWorstOfTwo(otherDigits(off.sayings), off.sayings, first, off);
            before = off;
        }
    }

    /** The three's things, those that the other three has too before the others. */
    private static int[] sharedFirst(int[] three, int[] other) {
        int[] round = new int[3];
        int at = 0;
        for (int thing : three) {
            if (has(other, thing)) {
                round[at++] = thing;
            }
        }
        for (int thing : three) {
            if (!has(other, thing)) {
                round[at++] = thing;
            }
        }
        return round;
    }

    /** Two threes; if they share two things, what is said of these is the same in both. */
    private static PairScales twoThrees(int[] one, int[] other, int[] ofOne, int[] ofOther) {
        int[] there = sharedFirst(one, other);
        int[] back = sharedFirst(other, one);
        PairScales x = new PairScales(6);
        sayRound(x, there, ofOne);
        sayRound(x, new int[] {back[1], back[0], back[2]}, ofOther);
        return x;
    }

    private static void closeThreesAnywhere() {
        sentence("Promise 6, 'off most; of like ones that with the least i, then j, then k', of close ones");
        int[][] threes = allThrees();
        for (int a = 0; a < threes.length; a++) {
            for (int b = a + 1; b < threes.length; b++) {
                int[] one = threes[a];
                int[] other = threes[b];
                dueWorst(twoThrees(one, other, MORE, LESS), one, 175, 54);
                dueWorst(twoThrees(one, other, LESS, MORE), other, 175, 54);
                dueWorst(twoThrees(one, other, turned(MORE), turned(LESS)), one, 175, 54);
                dueWorst(twoThrees(one, other, turned(LESS), turned(MORE)), other, 175, 54);
                dueWorst(twoThrees(one, other, LESS, LIKE_LESS), one, 81, 25);
                dueWorst(twoThrees(one, other, LIKE_LESS, LESS), one, 81, 25);
                dueWorst(twoThrees(one, other, turned(LESS), turned(LIKE_LESS)), one, 81, 25);
            }
        }
    }

    /** Says of i over each thing but i and j, in their order, what the sayings tell from a place on. */
    private static void sayRow(PairScales x, int i, int j, int[] sayings, int from) {
        int at = from;
        for (int other = 0; other < x.count(0); other++) {
            if (other != i && other != j) {
                x.say(i, other, sayings[at], sayings[at + 1]);
                at += 2;
            }
        }
    }

    private static void dueOrder(PairScales x, int i, int j, int want) {
        due("order(" + i + ", " + j + ")", x.order(i, j), want);
        due("order(" + j + ", " + i + ")", x.order(j, i), want == 0 ? 0 : 3 - want);
    }

    private static void eachRowBesideTheNext() {
        sentence("Promise 11, '1 if i has the greater ROW, 2 if j has, 0 if they are like', of each row and the next");
        for (int things = 3; things <= 6; things++) {
            Product before = null;
            for (Product row : products(things - 2)) {
                PairScales x = like(things);
                sayRow(x, 0, 1, row.sayings, 0);
                sayRow(x, 1, 0, otherDigits(row.sayings), 0);
                dueOrder(x, 0, 1, 0);
                if (before != null) {
                    sayRow(x, 1, 0, before.sayings, 0);
                    dueOrder(x, 0, 1, 1);
                }
                before = row;
            }
        }
    }

    private static void closeRowsOfAnyTwo() {
        sentence("Promise 11, '1 if i has the greater ROW, 2 if j has, 0 if they are like', of close ones");
        for (int[] rows : ROWS) {
            int things = (rows.length - 3) / 4 + 2;
            for (int i = 0; i < things; i++) {
                for (int j = 0; j < things; j++) {
                    if (i != j) {
                        dueOrderByRows(things, i, j, rows);
                    }
                }
            }
        }
    }

    private static void dueOrderByRows(int things, int i, int j, int[] rows) {
        PairScales x = like(things);
        x.say(i, j, rows[1], rows[2]);
        sayRow(x, i, j, rows, 3);
        sayRow(x, j, i, rows, 3 + 2 * (things - 2));
        dueOrder(x, i, j, rows[0]);
        int[] other = turned(java.util.Arrays.copyOfRange(rows, 1, rows.length));
        x.say(i, j, other[0], other[1]);
        sayRow(x, i, j, other, 2);
        sayRow(x, j, i, other, 2 + 2 * (things - 2));
        dueOrder(x, i, j, rows[0] == 0 ? 0 : 2);
    }

    /** A ring of three and one of four that have one thing in common, so that there is no other ring. */
    private static void dueLeastOfTwo(Product one, Product other, Product due) {
        Product three = one.size() == 3 ? one : other;
        Product four = one.size() == 3 ? other : one;
        PairScales x = new PairScales(6);
        sayRing(x, 0, three.sayings);
        sayRing(x, 2, four.sayings);
        dueLeast(x, due.top, due.bottom, due.size());
        sayRing(x, 0, turned(three.sayings));
        dueLeast(x, due.top, due.bottom, due.size());
    }

    private static void eachRootBesideTheNext() {
        sentence("Promise 12, 'the greatest, over all RINGS, of the root', of each of three beside the next of four");
        List<Product> roots = productsAboveOne(3);
        roots.addAll(productsAboveOne(4));
        // Of like ones that of fewest things comes last, as it is due beside the others.
        roots.sort((one, other) -> {
            int compared = one.compareRootTo(other);
            return compared != 0 ? compared : other.size() - one.size();
        });
        for (int k = 1; k < roots.size(); k++) {
            if (roots.get(k).size() != roots.get(k - 1).size()) {
                dueLeastOfTwo(roots.get(k), roots.get(k - 1), roots.get(k));
            }
        }
    }

    /** The things are numbered otherwise by a shift, or by one that also turns them round. */
    private static int renumbered(int thing, int shift) {
        return shift < 6 ? (thing + shift) % 6 : (6 + shift - thing) % 6;
    }

    private static void closeRoots() {
        sentence("Promise 12, 'the greatest, over all RINGS, of the root of what the RING is off', of close ones");
        for (int[] roots : ROOTS) {
            for (int shift = 0; shift < 12; shift++) {
                PairScales x = new PairScales(6);
                for (int k = 8; k < roots.length; k += 4) {
                    x.say(renumbered(roots[k], shift), renumbered(roots[k + 1], shift), roots[k + 2], roots[k + 3]);
                }
                dueLeast(x, roots[0], roots[1], roots[2]);
                x.unsay(renumbered(roots[6], shift), renumbered(roots[7], shift));
                dueLeast(x, roots[3], roots[4], roots[5]);
            }
        }
    }

    private static int power(int number, int times) {
        int power = 1;
        for (int k = 0; k < times; k++) {
            power *= number;
        }
        return power;
    }

    /** A ring of so many, each saying of which is p by q, and a chord that makes a shorter one. */
    private static PairScales ringAndChord(int size, int shorter, int p, int q) {
        PairScales x = new PairScales(6);
        for (int k = 0; k < size; k++) {
            x.say(k, (k + 1) % size, p, q);
        }
        x.say(shorter - 1, 0, p, q);
        return x;
    }

    /** Rings of like roots, with the chord, and without being like as soon as the chord is any less. */
    private static void dueLikeRoots(int p, int q) {
        int top = lowest(p, q);
        int bottom = lowest(q, p);
        for (int size = 4; size <= 6; size++) {
            for (int shorter = 3; shorter < size; shorter++) {
                PairScales x = ringAndChord(size, shorter, p, q);
                dueLeast(x, power(top, shorter), power(bottom, shorter), shorter);
                x.say(shorter - 1, 0, 1, 1);
                dueLeast(x, power(top, size), power(bottom, size), size);
            }
        }
        // Roots that are no fractions: of p by q and its square, of its square and its third power.
        PairScales three = new PairScales(6);
        sayRing(three, 0, p, q, 1, 1, p, q, 1, 1, 1, 1, 1, 1);
        dueLeast(three, top * top, bottom * bottom, 6);
        three.say(2, 0, 1, 1);
        dueLeast(three, top, bottom, 3);
        PairScales four = new PairScales(6);
        sayRing(four, 0, p, q, 1, 1, p, q, 1, 1, p, q, 1, 1);
        dueLeast(four, power(top, 3), power(bottom, 3), 6);
        four.say(3, 0, 1, 1);
        dueLeast(four, top * top, bottom * bottom, 4);
    }

    private static void likeRoots() {
        sentence("Promise 12, 'of like ones the one of fewest THINGS', whatever the root");
        for (int q = 1; q <= 9; q++) {
            for (int p = q + 1; p <= 9; p++) {
                dueLikeRoots(p, q);
            }
        }
    }

    /** Lower ends of each thing of a way over the next one; the upper ends are as great as can be. */
    private static void spanWay(PairScales x, int[] way, int... lows) {
        for (int k = 0; k + 1 < way.length; k++) {
            x.span(way[k], way[k + 1], lows[2 * k] * 1000 + lows[2 * k + 1] * 100 + 91);
        }
    }

    private static void dueBoundOfTwo(int[] one, int[] other, Product due) {
        PairScales x = new PairScales(6);
        spanWay(x, new int[] {0, 1, 2, 5}, one);
        spanWay(x, new int[] {0, 3, 4, 5}, other);
        dueBound(x, 0, 5, due.top, due.bottom);
    }

    private static void eachWayBesideTheNext() {
        sentence("Promise 16, 'the greatest product of lower ENDS on a way', of each of three beside the next greater");
        Product before = null;
        for (Product way : products(3)) {
            dueBoundOfTwo(way.sayings, otherDigits(way.sayings), way);
            if (before != null) {
                dueBoundOfTwo(before.sayings, way.sayings, way);
                dueBoundOfTwo(way.sayings, before.sayings, way);
            }
            before = way;
        }
    }

    /** The ring's things from a start on, or back from it. */
    private static int[] wayOf(int size, int start, int spans, int step) {
        int[] way = new int[spans + 1];
        for (int k = 0; k <= spans; k++) {
            way[k] = (start + k * step + size) % size;
        }
        return way;
    }

    /**
     * Cuts a ring at two things into two ways from the one to the other; the bound is the product of
     * the greater one, if the other one's upper ends leave room for it.
     */
    private static void dueBoundOfCutRing(int start, int cut, int[] ring) {
        int size = ring.length / 2;
        int[] there = new int[2 * cut];
        int[] back = new int[2 * (size - cut)];
        for (int k = 0; k < size; k++) {
            int at = (start + k) % size;
            if (k < cut) {
                System.arraycopy(ring, 2 * at, there, 2 * k, 2);
            } else {
                back[2 * (size - 1 - k)] = ring[2 * at + 1];
                back[2 * (size - 1 - k) + 1] = ring[2 * at];
            }
        }
        PairScales x = new PairScales(size);
        spanWay(x, wayOf(size, start, cut, 1), there);
        spanWay(x, wayOf(size, start, size - cut, -1), back);
        Product one = Product.of(there);
        Product other = Product.of(back);
        Product greater = one.compareTo(other) > 0 ? one : other;
        Product less = greater == one ? other : one;
        boolean can = greater.top <= greater.bottom * power(9, less.size());
        due("can()", x.can(), can);
        int goal = (start + cut) % size;
        dueBound(x, start, goal, can ? greater.top : NONE, can ? greater.bottom : NONE);
    }

    private static void closeWays() {
        sentence("Promise 16, 'the greatest product of lower ENDS on a way from i to j by SPANS', of close ones");
        for (int size = 3; size <= 6; size++) {
            for (int start = 0; start < size; start++) {
                for (int cut = 1; cut < size; cut++) {
                    dueBoundOfCutRing(start, cut, nearlyEvenRing(size));
                    dueBoundOfCutRing(start, cut, turned(nearlyEvenRing(size)));
                    dueBoundOfCutRing(start, cut, evenRing(size));
                    dueBoundOfCutRing(start, cut, turned(evenRing(size)));
                }
            }
        }
    }

    /** Two ways from 0 to 4, and 1 by 9 behind them: 125 by 729 and 6 by 35 are close. */
    private static void dueBoundOfSmall(int[] ofThree, int[] ofFour) {
        PairScales x = new PairScales(6);
        x.span(4, 5, 1991);
        spanWay(x, ofThree, 6, 5, 1, 7);
        spanWay(x, ofFour, 2, 5, 1, 1, 3, 7);
        dueBound(x, 0, 5, 2, 105);
        spanWay(x, ofFour, 5, 9, 5, 9, 5, 9);
        dueBound(x, 0, 5, 125, 6561);
    }

    /** A span and a way of two spans, and 1 by 729 behind them: 25 by 56 and 4 by 9, 5 by 8 and 28 by 45. */
    private static void dueBoundOfSmaller(int between, int goal) {
        PairScales x = new PairScales(6);
        int[] way = {0, between, goal};
        spanWay(x, new int[] {goal, 3, 4, 5}, 1, 9, 1, 9, 1, 9);
        spanWay(x, new int[] {0, goal}, 4, 9);
        spanWay(x, way, 4, 7, 7, 9);
        dueBound(x, 0, 5, 4, 6561);
        spanWay(x, way, 5, 8, 5, 7);
        dueBound(x, 0, 5, 25, 40824);
        spanWay(x, new int[] {0, goal}, 5, 8);
        spanWay(x, way, 4, 5, 7, 9);
        dueBound(x, 0, 5, 5, 5832);
    }

    private static void closeWaysOfSmallProducts() {
        sentence("Promise 16, 'the greatest product of lower ENDS on a way from i to j by SPANS', of small ones");
        dueBoundOfSmall(new int[] {0, 1, 4}, new int[] {0, 2, 3, 4});
        dueBoundOfSmall(new int[] {0, 3, 4}, new int[] {0, 1, 2, 4});
        dueBoundOfSmaller(1, 2);
        dueBoundOfSmaller(2, 1);
    }

    /** 59049 by 59049 and 26244 by 59049 are compared; tops times bottoms don't fit in an int. */
    private static void waysOfManyDigits() {
        sentence("Promise 16, 'the greatest product of lower ENDS on a way from i to j by SPANS', of many digits");
        PairScales x = new PairScales(6);
        x.span(0, 2, 4991);
        dueBound(x, 0, 2, 4, 9);
        x.span(0, 1, 9999);
        x.span(1, 2, 9999);
        x.span(1, 3, 9999);
        x.span(2, 3, 9999);
        x.span(3, 4, 9999);
        x.span(4, 5, 9999);
        dueBound(x, 0, 5, 1, 1);
        dueBound(x, 0, 2, 1, 1);
        x.unspan(0, 1);
        dueBound(x, 0, 5, 4, 9);
    }

    public static void main(String[] args) {
        eachThreeBesideTheNext();
        closeThreesAnywhere();
        eachRowBesideTheNext();
        closeRowsOfAnyTwo();
        eachRootBesideTheNext();
        closeRoots();
        likeRoots();
        eachWayBesideTheNext();
        closeWays();
        closeWaysOfSmallProducts();
        waysOfManyDigits();
        end();
    }
}
