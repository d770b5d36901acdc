import java.math.BigInteger;

/** What the tests of boundaries share: they name the sentence that they hold the class to. */
abstract class EdgeTest {
    static final int NONE = PairScales.NONE;

    /** Rings as near to 1 as digits can bring them without being 1: p, q of each over the next. */
    private static final int[][] NEARLY_EVEN = {
        {5, 8, 5, 7, 9, 4},
        {1, 8, 5, 7, 5, 4, 9, 1},
        {5, 9, 5, 9, 5, 9, 5, 6, 7, 1},
        {1, 9, 5, 9, 5, 9, 5, 6, 5, 1, 7, 1},
    };
    private static String sentence = "";
    private static int wrong = 0;

    static void sentence(String words) {
        sentence = words;
    }

    static void due(String call, int got, int want) {
        due(call, Integer.toString(got), Integer.toString(want));
    }

    static void due(String call, boolean got, boolean want) {
        due(call, Boolean.toString(got), Boolean.toString(want));
    }

    static void due(String call, String got, String want) {
        if (!got.equals(want)) {
            wrong++;
            System.out.println(sentence + ": " + call + " answered " + got + ", due is " + want);
        }
    }

    static void end() {
        System.out.println(wrong == 0 ? "all answers are as due" : wrong + " answers are not as due");
        if (wrong != 0) {
            System.exit(1);
        }
    }

    /** Numbers that are none of 0 .. count - 1: next to them, and as far off as an int can be. */
    static int[] outside(int count) {
        return new int[] {Integer.MIN_VALUE, Integer.MIN_VALUE + 1, -32, -2, -1, count, count + 1, 32, 256, 65536,
            Integer.MAX_VALUE - 1, Integer.MAX_VALUE};
    }

    static int lowest(int part, int other) {
        return part / BigInteger.valueOf(part).gcd(BigInteger.valueOf(other)).intValue();
    }

    static int pairs(int things) {
        return things * (things - 1) / 2;
    }

    static int[] evenRing(int size) {
        int[] sayings = new int[2 * size];
        for (int k = 0; k < size; k++) {
            sayings[2 * k] = 2 + k;
            sayings[2 * k + 1] = 2 + (k + 1) % size;
        }
        return sayings;
    }

    static int[] nearlyEvenRing(int size) {
        return NEARLY_EVEN[size - 3];
    }

    /** The top of such a ring's product; the bottom is one less. */
    static int nearlyEvenTop(int size) {
        return size < 5 ? 225 : 4375;
    }

    /** The same ring with each saying turned: its product is one by that of the other. */
    static int[] turned(int... sayings) {
        int[] other = new int[sayings.length];
        for (int k = 0; k < sayings.length; k++) {
            other[k] = sayings[k ^ 1];
        }
        return other;
    }

    /** All pairs, each said to be 1 by 1. */
    static PairScales like(int things) {
        PairScales x = new PairScales(things);
        for (int i = 0; i < things; i++) {
            for (int j = i + 1; j < things; j++) {
                x.say(i, j, 1, 1);
            }
        }
        return x;
    }

    /** Each thing over the next one, from the first one on, and the last one over the first one. */
    static void sayRing(PairScales x, int first, int... sayings) {
        int size = sayings.length / 2;
        for (int k = 0; k < size; k++) {
            x.say(first + k, first + (k + 1) % size, sayings[2 * k], sayings[2 * k + 1]);
        }
    }

    static int[][] allThrees() {
        int[][] threes = new int[20][];
        int at = 0;
        for (int i = 0; i < 6; i++) {
            for (int j = i + 1; j < 6; j++) {
                for (int k = j + 1; k < 6; k++) {
                    threes[at++] = new int[] {i, j, k};
                }
            }
        }
        return threes;
    }

    static boolean has(int[] three, int thing) {
        return three[0] == thing || three[1] == thing || three[2] == thing;
    }

    static void dueWorst(PairScales x, int[] three, int top, int bottom) {
        for (int k = 0; k < 3; k++) {
            due("worst(" + k + ")", x.worst(k), three[k]);
        }
        due("worst(3)", x.worst(3), top);
        due("worst(4)", x.worst(4), bottom);
    }

    static void dueLeast(PairScales x, int top, int bottom, int size) {
        due("least(0)", x.least(0), top);
        due("least(1)", x.least(1), bottom);
        due("least(2)", x.least(2), size);
    }

    static void dueBound(PairScales x, int i, int j, int top, int bottom) {
        due("bound(" + i + ", " + j + ", 0)", x.bound(i, j, 0), top);
        due("bound(" + i + ", " + j + ", 1)", x.bound(i, j, 1), bottom);
    }
}
