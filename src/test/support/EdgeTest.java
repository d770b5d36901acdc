import java.math.BigInteger;

/** What the tests of boundaries share: they name the sentence that they hold the class to. */
abstract class EdgeTest {
    static final int NONE = PairScales.NONE;

    /** Rings as near to 1 as digits can bring them without being 1: p, q of each over the next. */
    private static final int[][] NEARLY_EVEN = {
        {5, 8, 5, 7, 9, 4},
        {1, 8, 5, 7, 5, 4, 9, 1},
        {5, 9, 5, 9, 5, 9, 5, 6, 7, 1},
        {1, 9, 5, 9, 5, 9, 5, 6, 5, 1, 7, 1},
    };
    private static String sentence = "";
    private static int wrong = 0;

    static void sentence(String words) {
        sentence = words;
    }

    static void due(String call, int got, int want) {
        due(call, Integer.toString(got), Integer.toString(want));
    }

    static void due(String call, boolean got, boolean want) {
        due(call, Boolean.toString(got), Boolean.toString(want));
    }

    static void due(String call, String got, String want) {
        if (!got.equals(want)) {
            wrong++;
            System.out.println(sentence + ": " + call + " answered " + got + ", due is " + want);
        }
    }

    static void end() {
        System.out.println(wrong == 0 ? "all answers are as due" : wrong + " answers are not as due");
        if (wrong != 0) {
            System.exit(1);
        }
    }

    /** Numbers that are none of 0 .. count - 1: next to them, and as far off as an int can be. */
    static int[] outside(int count) {
        return new int[] {Integer.MIN_VALUE, Integer.MIN_VALUE + 1, -32, -2, -1, count, count + 1, 32, 256, 65536,
            Integer.MAX_VALUE - 1, Integer.MAX_VALUE};
    }

    static int lowest(int part, int other) {
        return part / BigInteger.valueOf(part).gcd(BigInteger.valueOf(other)).intValue();
    }

    static int pairs(int things) {
        return things * (things - 1) / 2;
    }

    static int[] evenRing(int size) {
        int[] sayings = new int[2 * size];
        for (int k = 0; k < size; k++) {
            sayings[2 * k] = 2 + k;
            sayings[2 * k + 1] = 2 + (k + 1) % size;
        }
        return sayings;
    }

    static int[] nearlyEvenRing(int size) {
        return NEARLY_EVEN[size - 3];
    }

    /** The top of such a ring's product; the bottom is one less. */
    static int nearlyEvenTop(int size) {
        return size < 5 ? 225 : 4375;
    }

    /** The same ring with each saying turned: its product is one by that of the other. */
    static int[] turned(int... sayings) {
        int[] other = new int[sayings.length];
        for (int k = 0; k < sayings.length; k++) {
            other[k] = sayings[k ^ 1];
        }
        return other;
    }
}
