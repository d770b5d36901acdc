/**
 * The sentences of promises 13 to 17, and of the terms that they use, that name a boundary: each one
 * has a test of its own, on both sides of it. No object is used for more than 512 calls.
 */
public final class PairScalesSpanEdges extends EdgeTest {
    /** All pairs, each from 1 by 1 to 1 by 1. */
    private static PairScales likeSpans(int things) {
        PairScales x = new PairScales(things);
        for (int i = 0; i < things; i++) {
            for (int j = i + 1; j < things; j++) {
                x.span(i, j, 1111);
            }
        }
        return x;
    }

    /** A row of things, each over the next one from 2 by 1 to 3 by 1. */
    private static PairScales row(int things) {
        PairScales x = new PairScales(things);
        for (int k = 0; k + 1 < things; k++) {
            x.span(k, k + 1, 2131);
        }
        return x;
    }

    /** A ring of spans that are one fraction each, from the first thing on. */
    private static void spanRing(PairScales x, int first, int... sayings) {
        int size = sayings.length / 2;
        for (int k = 0; k < size; k++) {
            int p = sayings[2 * k];
            int q = sayings[2 * k + 1];
            x.span(first + k, first + (k + 1) % size, 1010 * p + 101 * q);
        }
    }

    /** Read off the number's text, not reckoned as the class does it. */
    private static int digit(int ends, int at) {
        return Integer.toString(ends).charAt(at) - '0';
    }

    private static boolean isSpan(int ends) {
        return Integer.toString(ends).matches("[1-9]{4}")
            && digit(ends, 0) * digit(ends, 3) <= digit(ends, 2) * digit(ends, 1);
    }

    private static void dueSpan(int ends, boolean want) {
        PairScales x = new PairScales(2);
        due("span(0, 1, " + ends + ")", x.span(0, 1, ends), want);
        due("count(2) after span(0, 1, " + ends + ")", x.count(2), want ? 1 : 0);
        if (want) {
            int p = digit(ends, 0);
            int q = digit(ends, 1);
            int r = digit(ends, 2);
            int s = digit(ends, 3);
            dueBound(x, 0, 1, lowest(p, q), lowest(q, p));
            dueBound(x, 1, 0, lowest(s, r), lowest(r, s));
        } else {
            dueBound(x, 0, 1, NONE, NONE);
        }
    }

    private static void digitsOfEnds() {
        sentence("Promise 13, 'from p by q to r by s (each 1 .. 9)'");
        for (int ends = -12000; ends <= 120000; ends++) {
            dueSpan(ends, isSpan(ends));
        }
        for (int far : new int[] {Integer.MIN_VALUE, Integer.MIN_VALUE + 1, Integer.MIN_VALUE + 1111, -65536 + 1111,
            65536 + 1111, 1111111, 1 << 24, Integer.MAX_VALUE - 1, Integer.MAX_VALUE}) {
            dueSpan(far, false);
        }
        dueSpan(1111, true);
        dueSpan(9999, true);
        for (int tooSmall : new int[] {111, 1011, 1101, 1110, 999, 9099, 9909, 9990}) {
            dueSpan(tooSmall, false);
        }
        for (int tooLarge : new int[] {10111, 11011, 11101, 11111, 10000, 10999, 19999}) {
            dueSpan(tooLarge, false);
        }
    }

    private static void firstNotAboveSecond() {
        sentence("Promise 13, 'the first one not above the second one'");
        // 7 by 8 and 8 by 9 lie as near to each other as two fractions of digits can.
        dueSpan(7889, true);
        dueSpan(8978, false);
        dueSpan(9887, true);
        dueSpan(8798, false);
        dueSpan(1991, true);
        dueSpan(9119, false);
        dueSpan(7978, true);
        dueSpan(7879, false);
        dueSpan(7191, true);
        dueSpan(9171, false);
    }

    private static void endsMayBeLike() {
        sentence("Promise 13, 'the first one not above the second one', like ones");
        for (int p = 1; p <= 9; p++) {
            for (int q = 1; q <= 9; q++) {
                dueSpan(1010 * p + 101 * q, true);
            }
        }
        dueSpan(2436, true);
        dueSpan(3624, true);
        dueSpan(9331, true);
        dueSpan(3193, true);
    }

    private static void bothEndsMayBe() {
        sentence("Promise 13, 'it is between two ENDS (both may be)'");
        PairScales x = row(3);
        x.span(0, 2, 1141);
        due("can(), only the lower ends being left", x.can(), true);
        dueBound(x, 0, 1, 2, 1);
        dueBound(x, 1, 0, 1, 2);
        x.span(0, 2, 1172);
        due("can(), below the lower ends", x.can(), false);
        x.span(0, 2, 9191);
        due("can(), only the upper ends being left", x.can(), true);
        dueBound(x, 0, 1, 3, 1);
        dueBound(x, 1, 0, 1, 3);
        x.span(0, 1, 2152);
        due("can(), above the upper ends", x.can(), false);
    }

    private static void spansThatCantBe() {
        sentence("Promise 13, 'false if that can't be'");
        for (int things = 2; things <= 6; things++) {
            PairScales x = new PairScales(things);
            for (int no : outside(things)) {
                due("span(" + no + ", 0, 1111)", x.span(no, 0, 1111), false);
                due("span(0, " + no + ", 1111)", x.span(0, no, 1111), false);
                due("span(" + no + ", " + no + ", 1111)", x.span(no, no, 1111), false);
            }
            for (int i = 0; i < things; i++) {
                due("span(" + i + ", " + i + ", 1111)", x.span(i, i, 1111), false);
                due("span(" + i + ", " + i + ", 1191)", x.span(i, i, 1191), false);
            }
            due("count(2)", x.count(2), 0);
            due("span of the last over the first", x.span(things - 1, 0, 1111), true);
            due("span of the first over the last", x.span(0, things - 1, 1111), true);
            due("count(2)", x.count(2), 1);
        }
    }

    private static void noneToUnspan() {
        sentence("Promise 14, 'false if there is none'");
        for (int i = 0; i < 6; i++) {
            for (int j = 0; j < 6; j++) {
                if (i != j) {
                    dueUnspan(i, j);
                }
            }
        }
        for (int things = 2; things <= 6; things++) {
            PairScales x = likeSpans(things);
            for (int no : outside(things)) {
                due("unspan(" + no + ", 0)", x.unspan(no, 0), false);
                due("unspan(0, " + no + ")", x.unspan(0, no), false);
                due("unspan(" + no + ", " + no + ")", x.unspan(no, no), false);
            }
            for (int i = 0; i < things; i++) {
                due("unspan(" + i + ", " + i + ")", x.unspan(i, i), false);
            }
            due("count(2)", x.count(2), pairs(things));
            due("unspan of the last one", x.unspan(things - 1, 0), true);
            due("count(2)", x.count(2), pairs(things) - 1);
        }
    }

    private static void dueUnspan(int i, int j) {
        String pair = "(" + i + ", " + j + ")";
        PairScales x = likeSpans(6);
        due("unspan" + pair, x.unspan(i, j), true);
        due("unspan" + pair + " again", x.unspan(i, j), false);
        due("unspan the other way", x.unspan(j, i), false);
        x.say(i, j, 1, 1);
        due("unspan" + pair + " of a SAYING", x.unspan(i, j), false);
        due("count(1)", x.count(1), 1);
        due("count(2)", x.count(2), 14);
        x.span(j, i, 1121);
        due("unspan" + pair + ", spanned once more", x.unspan(i, j), true);
        PairScales y = new PairScales(6);
        due("unspan" + pair + ", never spanned", y.unspan(i, j), false);
        y.span(i, j, 2131);
        y.unspan(j, i);
        dueBound(y, i, j, NONE, NONE);
        dueBound(y, j, i, NONE, NONE);
    }

    private static void allCanBe() {
        sentence("Promise 15, 'if there are WEIGHTS by which the weight of i by that of j is within each'");
        for (int size = 2; size <= 6; size++) {
            due("can() without spans", new PairScales(size).can(), true);
            due("can() of a row", row(size).can(), true);
            due("can() of all alike", likeSpans(size).can(), true);
        }
        for (int size = 3; size <= 6; size++) {
            PairScales x = new PairScales(size);
            spanRing(x, 0, evenRing(size));
            due("can() of an even ring of " + size, x.can(), true);
            spanRing(x, 0, nearlyEvenRing(size));
            due("can() just above 1, of " + size, x.can(), false);
            spanRing(x, 0, turned(nearlyEvenRing(size)));
            due("can() just below 1, of " + size, x.can(), false);
            x.unspan(0, size - 1);
            due("can(), opened again", x.can(), true);
        }
    }

    private static void eachSpanCounts() {
        sentence("Promise 15, 'Whether all SPANS CAN be'");
        for (int k = 0; k < 2; k++) {
            PairScales x = new PairScales(6);
            spanRing(x, 0, evenRing(3));
            spanRing(x, 3, evenRing(3));
            due("can() of two rings", x.can(), true);
            spanRing(x, 3 * k, nearlyEvenRing(3));
            due("can(), only ring " + k + " being off", x.can(), false);
        }
        for (int i = 0; i < 6; i++) {
            for (int j = 0; j < 6; j++) {
                if (i != j) {
                    PairScales x = likeSpans(6);
                    x.span(i, j, 9898);
                    due("can(), only (" + i + ", " + j + ") being off", x.can(), false);
                    x.span(i, j, 8998);
                    due("can(), that one being wide", x.can(), true);
                    x.say(i, j, 9, 1);
                    due("can(), that one being said", x.can(), true);
                }
            }
        }
    }

    private static void noWay() {
        sentence("Promise 16, 'none, if there is no way'");
        for (int things = 2; things <= 6; things++) {
            PairScales empty = new PairScales(things);
            dueBound(empty, 0, things - 1, NONE, NONE);
            PairScales x = row(things);
            dueBound(x, 0, things - 1, 1 << things - 1, 1);
            dueBound(x, things - 1, 0, 1, (int) Math.round(Math.pow(3, things - 1)));
            for (int k = 0; k + 1 < things; k++) {
                x.unspan(k, k + 1);
                x.say(k, k + 1, 2, 1);
                dueBound(x, 0, things - 1, NONE, NONE);
                dueBound(x, things - 1, 0, NONE, NONE);
                dueBound(x, 0, k, k == 0 ? NONE : 1 << k, k == 0 ? NONE : 1);
                x.span(k, k + 1, 2131);
            }
            dueBound(x, 0, things - 1, 1 << things - 1, 1);
        }
        PairScales longest = new PairScales(6);
        for (int k = 0; k < 5; k++) {
            longest.span(k, k + 1, 9191);
        }
        dueBound(longest, 0, 5, 59049, 1);
        dueBound(longest, 5, 0, 1, 59049);
    }

    private static void greatestOfWays() {
        sentence("Promise 16, 'the greatest product of lower ENDS on a way from i to j by SPANS'");
        PairScales x = new PairScales(6);
        x.span(0, 1, 5891);
        x.span(1, 5, 9791);
        x.span(0, 5, 4591);
        // 45 by 56 is 1 by 280 above 4 by 5.
        dueBound(x, 0, 5, 45, 56);
        x.span(0, 5, 5691);
        dueBound(x, 0, 5, 5, 6);
        x.span(0, 3, 3491);
        x.span(3, 4, 1191);
        x.span(4, 5, 9891);
        dueBound(x, 0, 5, 27, 32);
        dueBound(x, 0, 1, 5, 8);
        dueBound(x, 5, 0, 1, 9);
        // As near to each other as two ways can come that meet at their ends alone: 54 by 25, 175 by 81.
        PairScales near = new PairScales(6);
        near.span(0, 1, 9591);
        near.span(1, 2, 6591);
        near.span(2, 5, 1191);
        dueBound(near, 0, 5, 54, 25);
        near.span(0, 3, 5991);
        near.span(3, 4, 5991);
        near.span(4, 5, 7191);
        dueBound(near, 0, 5, 175, 81);
        near.span(2, 5, 7691);
        dueBound(near, 0, 5, 63, 25);
    }

    private static void otherPartsOfABound() {
        sentence("Promise 16, 'its top (what 0), its bottom (1); NONE for others'");
        PairScales x = new PairScales(2);
        x.span(0, 1, 4668);
        dueBound(x, 0, 1, 2, 3);
        dueBound(x, 1, 0, 4, 3);
        for (int what : outside(2)) {
            due("bound(0, 1, " + what + ")", x.bound(0, 1, what), NONE);
            due("bound(1, 0, " + what + ")", x.bound(1, 0, what), NONE);
        }
    }

    private static void boundOfNoSuchThing() {
        sentence("Promise 16, 'NONE .. if there is .. no such THING'");
        for (int things = 2; things <= 6; things++) {
            PairScales x = likeSpans(things);
            for (int no : outside(things)) {
                dueBound(x, no, 0, NONE, NONE);
                dueBound(x, 0, no, NONE, NONE);
                dueBound(x, no, no, NONE, NONE);
            }
            dueBound(x, things - 1, 0, 1, 1);
            dueBound(x, 0, things - 1, 1, 1);
        }
    }

    private static void boundOfOneOverItself() {
        sentence("Promise 16, 'both are one'");
        for (int things = 2; things <= 6; things++) {
            PairScales x = likeSpans(things);
            for (int i = 0; i < things; i++) {
                dueBound(x, i, i, NONE, NONE);
                dueBound(x, i, (i + 1) % things, 1, 1);
            }
        }
    }

    private static void boundOfSpansThatCantBe() {
        sentence("Promise 16, 'or SPANS can't be'");
        PairScales x = new PairScales(6);
        x.span(0, 1, 2131);
        spanRing(x, 3, evenRing(3));
        dueBound(x, 0, 1, 2, 1);
        dueBound(x, 3, 4, 2, 3);
        spanRing(x, 3, nearlyEvenRing(3));
        dueBound(x, 0, 1, NONE, NONE);
        dueBound(x, 3, 4, NONE, NONE);
        dueBound(x, 0, 5, NONE, NONE);
        x.unspan(3, 5);
        dueBound(x, 0, 1, 2, 1);
        dueBound(x, 3, 4, 5, 8);
        PairScales y = row(3);
        y.span(0, 2, 1171);
        dueBound(y, 0, 1, 2, 1);
        y.span(0, 2, 1131);
        dueBound(y, 0, 1, NONE, NONE);
    }

    private static void otherCounts() {
        sentence("Promise 17, '0 THINGS, 1 SAYINGS, 2 SPANS. NONE for others'");
        for (int things = 2; things <= 6; things++) {
            PairScales x = new PairScales(things);
            int held = 0;
            for (int i = 0; i < things; i++) {
                for (int j = i + 1; j < things; j++) {
                    x.say(i, j, 1, 1);
                    x.say(j, i, 1, 1);
                    dueCounts(x, things, held + 1, held);
                    x.span(i, j, 1111);
                    x.span(j, i, 1111);
                    held++;
                    dueCounts(x, things, held, held);
                }
            }
            dueCounts(x, things, pairs(things), pairs(things));
            for (int what : outside(3)) {
                due("count(" + what + ")", x.count(what), NONE);
            }
            for (int i = 0; i < things; i++) {
                for (int j = i + 1; j < things; j++) {
                    x.unsay(j, i);
                    dueCounts(x, things, held - 1, held);
                    x.unspan(j, i);
                    held--;
                    dueCounts(x, things, held, held);
                }
            }
            dueCounts(x, things, 0, 0);
        }
    }

    private static void dueCounts(PairScales x, int things, int sayings, int spans) {
        due("count(0)", x.count(0), things);
        due("count(1)", x.count(1), sayings);
        due("count(2)", x.count(2), spans);
    }

    public static void main(String[] args) {
        digitsOfEnds();
        firstNotAboveSecond();
        endsMayBeLike();
        bothEndsMayBe();
        spansThatCantBe();
        noneToUnspan();
        allCanBe();
        eachSpanCounts();
        noWay();
        greatestOfWays();
        otherPartsOfABound();
        boundOfNoSuchThing();
        boundOfOneOverItself();
        boundOfSpansThatCantBe();
        otherCounts();
        end();
    }
}
