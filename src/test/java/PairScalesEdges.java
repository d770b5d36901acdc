/**
 * The sentences of promises 1 to 12, and of the terms that they use, that name a boundary: each one
 * has a test of its own, on both sides of it. No object is used for more than 512 calls.
 */
public final class PairScalesEdges extends EdgeTest {
    private static final int[] WEIGHTS = {1, 2, 3, 4, 6, 8};
    /** Six things, no ring of which is even. */
    private static final int[] NO_EVEN_RING = {
        6, 8, 9, 3, 4, 3, 5, 8, 1, 4, 4, 9, 9, 6, 3, 3, 5, 6, 8, 7, 9, 2, 9, 1, 2, 5, 4, 1, 9, 2,
    };

    /** The number of a pair, counted out as the document does. */
    private static int pair(int things, int i, int j) {
        int number = 0;
        for (int upper = 0; upper < things; upper++) {
            for (int lower = upper + 1; lower < things; lower++) {
                if (upper == Math.min(i, j) && lower == Math.max(i, j)) {
                    return number;
                }
                number++;
            }
        }
        return NONE;
    }

    private static PairScales full(int things, int... sayings) {
        PairScales x = new PairScales(things);
        int at = 0;
        for (int i = 0; i < things; i++) {
            for (int j = i + 1; j < things; j++) {
                x.say(i, j, sayings[at], sayings[at + 1]);
                at += 2;
            }
        }
        return x;
    }

    private static PairScales evenByWeights(int things) {
        PairScales x = new PairScales(things);
        for (int i = 0; i < things; i++) {
            for (int j = i + 1; j < things; j++) {
                x.say(i, j, WEIGHTS[i], WEIGHTS[j]);
            }
        }
        return x;
    }

    private static void dueSaid(PairScales x, int i, int j, int top, int bottom) {
        due("said(" + i + ", " + j + ", 0)", x.said(i, j, 0), top);
        due("said(" + i + ", " + j + ", 1)", x.said(i, j, 1), bottom);
        due("said(" + j + ", " + i + ", 0)", x.said(j, i, 0), bottom);
        due("said(" + j + ", " + i + ", 1)", x.said(j, i, 1), top);
    }

    private static void othersCountAsTheNearest() {
        sentence("Promise 1, 'So many THINGS (2 .. 6; others count as the nearest)'");
        int[] asked = {Integer.MIN_VALUE, Integer.MIN_VALUE + 1, -6, -2, -1, 0, 1, 2, 3, 4, 5, 6, 7, 8, 9, 259, 65539,
            Integer.MAX_VALUE - 1, Integer.MAX_VALUE};
        int[] held = {2, 2, 2, 2, 2, 2, 2, 2, 3, 4, 5, 6, 6, 6, 6, 6, 6, 6, 6};
        for (int k = 0; k < asked.length; k++) {
            PairScales x = new PairScales(asked[k]);
            due("count(0) of " + asked[k], x.count(0), held[k]);
            due("say of the last thing of " + asked[k], x.say(held[k] - 1, 0, 1, 1), true);
            due("say of one behind the last of " + asked[k], x.say(held[k], 0, 1, 1), false);
        }
    }

    private static void nothingSaidAtFirst() {
        sentence("Promise 1, 'nothing SAID'");
        for (int things = 2; things <= 6; things++) {
            PairScales x = new PairScales(things);
            for (int i = 0; i < things; i++) {
                for (int j = 0; j < things; j++) {
                    due("said(" + i + ", " + j + ", 0)", x.said(i, j, 0), NONE);
                    due("unsay(" + i + ", " + j + ")", x.unsay(i, j), false);
                    due("unspan(" + i + ", " + j + ")", x.unspan(i, j), false);
                }
            }
            due("count(1)", x.count(1), 0);
            due("count(2)", x.count(2), 0);
            x.say(0, 1, 1, 1);
            due("count(1) after the first one", x.count(1), 1);
        }
    }

    private static void digitsOfSay() {
        sentence("Promise 2, 'each 1 .. 9'");
        for (int p = -3; p <= 12; p++) {
            for (int q = -3; q <= 12; q++) {
                dueSay(p, q);
            }
        }
        for (int far : new int[] {Integer.MIN_VALUE, Integer.MIN_VALUE + 1, -256, 257, 65537, Integer.MAX_VALUE - 1,
            Integer.MAX_VALUE}) {
            dueSay(far, 1);
            dueSay(1, far);
            dueSay(far, far);
        }
    }

    private static void dueSay(int p, int q) {
        boolean can = p >= 1 && p <= 9 && q >= 1 && q <= 9;
        PairScales x = new PairScales(2);
        due("say(0, 1, " + p + ", " + q + ")", x.say(0, 1, p, q), can);
        due("count(1) after it", x.count(1), can ? 1 : 0);
        dueSaid(x, 0, 1, can ? lowest(p, q) : NONE, can ? lowest(q, p) : NONE);
    }

    private static void inPlaceOfWhatWasSaid() {
        sentence("Promise 2, 'in place of what was SAID'");
        for (int things = 2; things <= 6; things++) {
            PairScales x = new PairScales(things);
            int held = 0;
            for (int i = 0; i < things; i++) {
                for (int j = i + 1; j < things; j++) {
                    held++;
                    due("say, the first time", x.say(i, j, 9, 1), true);
                    due("count(1)", x.count(1), held);
                    due("say, the second time", x.say(i, j, 5, 7), true);
                    dueSaid(x, i, j, 5, 7);
                    due("say, the other way", x.say(j, i, 3, 2), true);
                    dueSaid(x, i, j, 2, 3);
                    due("count(1)", x.count(1), held);
                }
            }
            due("say, all being said", x.say(0, things - 1, 4, 1), true);
            dueSaid(x, 0, things - 1, 4, 1);
            due("count(1), all being said", x.count(1), pairs(things));
        }
    }

    private static void noSuchThingToSay() {
        sentence("Promise 2, 'false if there is no such THING'");
        for (int things = 2; things <= 6; things++) {
            PairScales x = new PairScales(things);
            for (int no : outside(things)) {
                due("say(" + no + ", 0, 1, 1)", x.say(no, 0, 1, 1), false);
                due("say(0, " + no + ", 1, 1)", x.say(0, no, 1, 1), false);
                int other = no ^ 64;
                due("say(" + no + ", " + other + ", 1, 1)", x.say(no, other, 1, 1), false);
            }
            due("count(1)", x.count(1), 0);
            due("say of the last over the first", x.say(things - 1, 0, 1, 1), true);
            due("say of the first over the last", x.say(0, things - 1, 1, 1), true);
            due("count(1)", x.count(1), 1);
        }
    }

    private static void bothAreOneToSay() {
        sentence("Promise 2, 'both are one'");
        for (int things = 2; things <= 6; things++) {
            for (int i = 0; i < things; i++) {
                PairScales x = new PairScales(things);
                due("say(" + i + ", " + i + ", 1, 1)", x.say(i, i, 1, 1), false);
                due("say(" + i + ", " + i + ", 2, 1)", x.say(i, i, 2, 1), false);
                due("count(1)", x.count(1), 0);
                due("said(" + i + ", " + i + ", 0)", x.said(i, i, 0), NONE);
                due("say over the next one", x.say(i, (i + 1) % things, 1, 1), true);
            }
            for (int no : outside(things)) {
                due("say(" + no + ", " + no + ", 1, 1)", new PairScales(things).say(no, no, 1, 1), false);
            }
        }
    }

    private static void notSaidToUnsay() {
        sentence("Promise 3, 'false if it isn't'");
        for (int i = 0; i < 6; i++) {
            for (int j = 0; j < 6; j++) {
                if (i != j) {
                    dueUnsay(i, j);
                }
            }
        }
        PairScales x = like(6);
        for (int i = 0; i < 6; i++) {
            due("unsay(" + i + ", " + i + ")", x.unsay(i, i), false);
        }
        for (int things = 2; things <= 6; things++) {
            PairScales y = like(things);
            for (int no : outside(things)) {
                due("unsay(" + no + ", 0)", y.unsay(no, 0), false);
                due("unsay(0, " + no + ")", y.unsay(0, no), false);
                due("unsay(" + no + ", " + no + ")", y.unsay(no, no), false);
            }
            due("count(1)", y.count(1), pairs(things));
            due("unsay of the last one", y.unsay(things - 1, 0), true);
            due("count(1)", y.count(1), pairs(things) - 1);
        }
    }

    private static void dueUnsay(int i, int j) {
        String pair = "(" + i + ", " + j + ")";
        PairScales x = like(6);
        due("unsay" + pair, x.unsay(i, j), true);
        due("count(1)", x.count(1), 14);
        due("unsay" + pair + " again", x.unsay(i, j), false);
        due("unsay the other way", x.unsay(j, i), false);
        x.span(i, j, 1111);
        due("unsay" + pair + " of a SPAN", x.unsay(i, j), false);
        due("count(1)", x.count(1), 14);
        dueSaid(x, i, j, NONE, NONE);
        x.say(j, i, 2, 1);
        due("unsay" + pair + ", said once more", x.unsay(i, j), true);
        PairScales y = new PairScales(6);
        due("unsay" + pair + ", never said", y.unsay(i, j), false);
        due("count(1)", y.count(1), 0);
    }

    private static void lowestTerms() {
        sentence("Terms, 'Fractions are told in lowest terms, top and bottom'");
        PairScales x = full(3, 4, 6, 2, 8, 6, 8);
        dueSaid(x, 0, 1, 2, 3);
        dueSaid(x, 0, 2, 1, 4);
        dueSaid(x, 1, 2, 3, 4);
        dueWorst(x, new int[] {0, 1, 2}, 2, 1);
        dueLeast(x, 2, 1, 3);
        due("row(0, 0)", x.row(0, 0), 1);
        due("row(0, 1)", x.row(0, 1), 6);
        due("row(1, 0)", x.row(1, 0), 9);
        due("row(1, 1)", x.row(1, 1), 8);
        due("row(2, 0)", x.row(2, 0), 16);
        due("row(2, 1)", x.row(2, 1), 3);
        x.say(0, 1, 9, 9);
        dueSaid(x, 0, 1, 1, 1);
    }

    private static void otherPartsOfASaying() {
        sentence("Promise 4, 'its top (what 0), its bottom (1); NONE for others'");
        PairScales x = new PairScales(2);
        x.say(0, 1, 5, 7);
        dueSaid(x, 0, 1, 5, 7);
        for (int what : outside(2)) {
            due("said(0, 1, " + what + ")", x.said(0, 1, what), NONE);
            due("said(1, 0, " + what + ")", x.said(1, 0, what), NONE);
        }
    }

    private static void saidButNotThese() {
        sentence("Promise 4, 'NONE .. if it isn't SAID'");
        for (int i = 0; i < 6; i++) {
            for (int j = i + 1; j < 6; j++) {
                PairScales x = evenByWeights(6);
                dueSaid(x, i, j, lowest(WEIGHTS[i], WEIGHTS[j]), lowest(WEIGHTS[j], WEIGHTS[i]));
                x.unsay(i, j);
                dueSaid(x, i, j, NONE, NONE);
                x.span(i, j, 1111);
                dueSaid(x, i, j, NONE, NONE);
                PairScales y = new PairScales(6);
                y.say(i, j, 1, 1);
                dueSaid(y, i, j, 1, 1);
                dueSaid(y, i, (j + 1) % 6 == i ? (j + 2) % 6 : (j + 1) % 6, NONE, NONE);
            }
        }
        for (int things = 2; things <= 6; things++) {
            PairScales x = like(things);
            for (int no : outside(things)) {
                dueSaid(x, no, 0, NONE, NONE);
                dueSaid(x, no, no, NONE, NONE);
            }
            for (int i = 0; i < things; i++) {
                dueSaid(x, i, i, NONE, NONE);
            }
        }
    }

    private static void ringsHaveThreeAtLeast() {
        sentence("Promise 5, 'A RING is a row of three THINGS at least'");
        PairScales two = new PairScales(2);
        two.say(0, 1, 9, 1);
        due("even() of two things", two.even(), true);
        PairScales apart = new PairScales(6);
        apart.say(0, 1, 9, 1);
        apart.say(2, 3, 9, 1);
        apart.say(4, 5, 9, 1);
        due("even() of pairs apart", apart.even(), true);
        PairScales three = new PairScales(3);
        sayRing(three, 0, 9, 1, 9, 1, 9, 1);
        due("even() of a ring of three", three.even(), false);
    }

    private static void ringsAreClosed() {
        sentence("Promise 5, 'the last one with the first one'");
        for (int size = 3; size <= 6; size++) {
            PairScales x = new PairScales(size);
            for (int k = 0; k + 1 < size; k++) {
                x.say(k, k + 1, 9, 1);
            }
            due("even() of an open row of " + size, x.even(), true);
            x.say(size - 1, 0, 9, 1);
            due("even() of the closed row of " + size, x.even(), false);
            for (int k = 0; k < size; k++) {
                x.unsay(k, (k + 1) % size);
                due("even() opened behind " + k, x.even(), true);
                x.say(k, (k + 1) % size, 9, 1);
            }
        }
    }

    private static void evenIfEachProductIsOne() {
        sentence("Promise 5, 'SAYINGS are EVEN if each RING's PRODUCT is 1'");
        for (int size = 3; size <= 6; size++) {
            PairScales x = new PairScales(size);
            sayRing(x, 0, evenRing(size));
            due("even() of an even ring of " + size, x.even(), true);
            sayRing(x, 0, nearlyEvenRing(size));
            due("even() just above 1, of " + size, x.even(), false);
            sayRing(x, 0, turned(nearlyEvenRing(size)));
            due("even() just below 1, of " + size, x.even(), false);
            due("even() of all by weights", evenByWeights(size).even(), true);
        }
        for (int k = 0; k < 2; k++) {
            PairScales x = new PairScales(6);
            sayRing(x, 0, evenRing(3));
            sayRing(x, 3, evenRing(3));
            due("even() of two even rings", x.even(), true);
            sayRing(x, 3 * k, nearlyEvenRing(3));
            due("even(), only ring " + k + " being off", x.even(), false);
        }
        for (int i = 0; i < 6; i++) {
            for (int j = i + 1; j < 6; j++) {
                PairScales x = evenByWeights(6);
                x.say(i, j, WEIGHTS[i] == 1 ? 9 : 1, WEIGHTS[j]);
                due("even(), only (" + i + ", " + j + ") being off", x.even(), false);
                x.unsay(i, j);
                due("even() without it", x.even(), true);
            }
        }
    }

    private static void sayThree(PairScales x, int[] three) {
        x.say(three[0], three[1], 1, 1);
        x.say(three[1], three[2], 1, 1);
        x.say(three[0], three[2], 1, 1);
    }

    /** Says p by q of two of the three that the other ones don't hold both. */
    private static void putOff(PairScales x, int[] three, int[] others, int p, int q) {
        for (int k = 0; k < 3; k++) {
            int i = three[k];
            int j = three[(k + 1) % 3];
            if (!has(others, i) || !has(others, j)) {
                x.say(i, j, p, q);
                return;
            }
        }
    }

    private static PairScales twoThrees(int[] one, int[] other, int[] offOne, int[] offOther) {
        PairScales x = new PairScales(6);
        sayThree(x, one);
        sayThree(x, other);
        putOff(x, one, other, offOne[0], offOne[1]);
        putOff(x, other, one, offOther[0], offOther[1]);
        return x;
    }

    private static void firstOfLikeThrees() {
        sentence("Promise 6, 'of like ones that with the least i, then j, then k'");
        int[][] threes = allThrees();
        for (int a = 0; a < 20; a++) {
            for (int b = a + 1; b < 20; b++) {
                int[] one = threes[a];
                int[] other = threes[b];
                dueWorst(twoThrees(one, other, new int[] {8, 7}, new int[] {8, 7}), one, 8, 7);
                dueWorst(twoThrees(one, other, new int[] {7, 8}, new int[] {8, 7}), one, 8, 7);
                dueWorst(twoThrees(one, other, new int[] {8, 7}, new int[] {7, 8}), one, 8, 7);
                dueWorst(twoThrees(one, other, new int[] {9, 8}, new int[] {8, 7}), other, 8, 7);
                dueWorst(twoThrees(one, other, new int[] {8, 9}, new int[] {7, 8}), other, 8, 7);
                dueWorst(twoThrees(one, other, new int[] {8, 7}, new int[] {9, 8}), one, 8, 7);
                dueWorst(twoThrees(one, other, new int[] {1, 1}, new int[] {1, 1}), one, 1, 1);
            }
        }
        // As near to each other as two threes can come without being like.
        PairScales near = new PairScales(6);
        sayRing(near, 0, 9, 5, 6, 5, 1, 1);
        sayRing(near, 3, 5, 9, 5, 9, 7, 1);
        dueWorst(near, new int[] {3, 4, 5}, 175, 81);
        sayRing(near, 3, 5, 9, 5, 6, 1, 1);
        dueWorst(near, new int[] {0, 1, 2}, 54, 25);
    }

    private static void otherPartsOfTheWorst() {
        sentence("Promise 6, '0 i, 1 j, 2 k, 3 the top, 4 the bottom .. NONE for others'");
        PairScales x = new PairScales(6);
        sayRing(x, 3, 9, 1, 9, 1, 9, 1);
        dueWorst(x, new int[] {3, 4, 5}, 729, 1);
        sayRing(x, 3, 1, 9, 1, 9, 1, 9);
        dueWorst(x, new int[] {3, 4, 5}, 729, 1);
        for (int what : outside(5)) {
            due("worst(" + what + ")", x.worst(what), NONE);
        }
    }

    private static void noThreeAllSaid() {
        sentence("Promise 6, 'NONE .. if there are none'");
        PairScales two = new PairScales(2);
        two.say(0, 1, 9, 1);
        dueWorst(two, new int[] {NONE, NONE, NONE}, NONE, NONE);
        dueWorst(new PairScales(6), new int[] {NONE, NONE, NONE}, NONE, NONE);
        PairScales x = new PairScales(6);
        for (int i = 0; i < 3; i++) {
            for (int j = 3; j < 6; j++) {
                x.say(i, j, 9, 1);
            }
        }
        dueWorst(x, new int[] {NONE, NONE, NONE}, NONE, NONE);
        x.say(1, 2, 2, 1);
        dueWorst(x, new int[] {1, 2, 3}, 2, 1);
        x.unsay(1, 2);
        dueWorst(x, new int[] {NONE, NONE, NONE}, NONE, NONE);
        for (int[] three : allThrees()) {
            for (int open = 0; open < 3; open++) {
                PairScales y = new PairScales(6);
                sayThree(y, three);
                dueWorst(y, three, 1, 1);
                y.unsay(three[open], three[(open + 1) % 3]);
                dueWorst(y, new int[] {NONE, NONE, NONE}, NONE, NONE);
            }
        }
    }

    private static void notAllJoined() {
        sentence("Promise 7, '0 if SAYINGS don't JOIN all'");
        int[] ofAll = {0, 1, 1, 3, 16, 125, 1296};
        for (int things = 2; things <= 6; things++) {
            due("trees(), nothing said", new PairScales(things).trees(), 0);
            due("trees(), all said", like(things).trees(), ofAll[things]);
            for (int gone = 0; gone < things; gone++) {
                PairScales x = like(things);
                for (int j = 0; j < things; j++) {
                    x.unsay(gone, j);
                }
                due("trees() without " + gone, x.trees(), 0);
                x.say((gone + 1) % things, gone, 7, 3);
                due("trees(), " + gone + " joined by one", x.trees(), ofAll[things - 1]);
            }
            PairScales row = new PairScales(things);
            for (int k = 0; k + 1 < things; k++) {
                due("trees() of a row that is too short", row.trees(), 0);
                row.say(k + 1, k, 2, 1);
            }
            due("trees() of a row", row.trees(), 1);
            for (int k = 0; k + 1 < things; k++) {
                row.unsay(k, k + 1);
                due("trees() of a row torn behind " + k, row.trees(), 0);
                row.say(k, k + 1, 2, 1);
            }
        }
        PairScales apart = new PairScales(6);
        sayRing(apart, 0, 1, 1, 1, 1, 1, 1);
        sayRing(apart, 3, 1, 1, 1, 1, 1, 1);
        due("trees() of two rings apart", apart.trees(), 0);
        apart.say(2, 3, 1, 1);
        due("trees() of two rings joined", apart.trees(), 9);
    }

    private static void dueLeft(PairScales x, int few, int left) {
        due("few()", x.few(), few);
        due("left()", x.left(), left);
    }

    private static void noneToBeLeftOut() {
        sentence("Promise 8, 'how many SAYINGS must be left out at least so that the others are EVEN'");
        for (int things = 2; things <= 6; things++) {
            dueLeft(new PairScales(things), 0, 0);
            dueLeft(evenByWeights(things), 0, 0);
        }
        for (int size = 3; size <= 6; size++) {
            PairScales x = new PairScales(size);
            sayRing(x, 0, evenRing(size));
            dueLeft(x, 0, 0);
            sayRing(x, 0, nearlyEvenRing(size));
            dueLeft(x, 1, 1);
            sayRing(x, 0, turned(nearlyEvenRing(size)));
            dueLeft(x, 1, 1);
            x.unsay(size - 1, size - 2);
            dueLeft(x, 0, 0);
        }
        // A tree is all that can stay, and the greatest one as a number is that of these pairs.
        int tree = 1 << 14 | 1 << 13 | 1 << 11 | 1 << 8 | 1 << 4;
        dueLeft(full(6, NO_EVEN_RING), 10, 0x7FFF & ~tree);
    }

    private static void leastAsANumber() {
        sentence("Promise 9, 'of the heaps of so many that can be, the one that is least as a number'");
        for (int[] three : allThrees()) {
            PairScales x = new PairScales(6);
            sayThree(x, three);
            x.say(three[0], three[1], 2, 1);
            dueLeft(x, 1, 1 << pair(6, three[0], three[1]));
            x.say(three[0], three[1], 1, 1);
            x.say(three[2], three[1], 2, 1);
            dueLeft(x, 1, 1 << pair(6, three[0], three[1]));
        }
        PairScales apart = new PairScales(6);
        sayRing(apart, 0, 2, 1, 2, 1, 2, 1);
        sayRing(apart, 3, 2, 1, 2, 1, 2, 1);
        dueLeft(apart, 2, 1 | 1 << 12);
        PairScales four = new PairScales(6);
        sayRing(four, 2, 2, 1, 2, 1, 2, 1, 2, 1);
        dueLeft(four, 1, 1 << 9);
    }

    private static void bitsOfPairs() {
        sentence("Promise 9, 'bit k for PAIR k'");
        for (int things = 4; things <= 6; things++) {
            for (int i = 0; i < things; i++) {
                for (int j = i + 1; j < things; j++) {
                    PairScales x = like(things);
                    x.say(j, i, 9, 8);
                    // One of a great number goes before two of small ones.
                    dueLeft(x, 1, 1 << pair(things, i, j));
                }
            }
        }
    }

    private static void otherPartsOfARow() {
        sentence("Promise 10, 'its top (what 0), its bottom (1); NONE for others'");
        PairScales x = full(2, 6, 9);
        due("row(0, 0)", x.row(0, 0), 2);
        due("row(0, 1)", x.row(0, 1), 3);
        due("row(1, 0)", x.row(1, 0), 3);
        due("row(1, 1)", x.row(1, 1), 2);
        PairScales y = like(6);
        for (int j = 1; j < 6; j++) {
            y.say(j, 0, 1, 9);
        }
        due("row(0, 0), the greatest", y.row(0, 0), 59049);
        due("row(0, 1), the greatest", y.row(0, 1), 1);
        for (int j = 1; j < 6; j++) {
            y.say(j, 0, 9, 1);
        }
        due("row(0, 0), the least", y.row(0, 0), 1);
        due("row(0, 1), the least", y.row(0, 1), 59049);
        for (int what : outside(2)) {
            due("row(0, " + what + ")", x.row(0, what), NONE);
            due("row(5, " + what + ")", y.row(5, what), NONE);
        }
    }

    private static void rowOfNoSuchThing() {
        sentence("Promise 10, 'NONE .. if there is no such THING'");
        for (int things = 2; things <= 6; things++) {
            PairScales x = like(things);
            for (int no : outside(things)) {
                due("row(" + no + ", 0)", x.row(no, 0), NONE);
                due("row(" + no + ", 1)", x.row(no, 1), NONE);
            }
            due("row of the first one", x.row(0, 0), 1);
            due("row of the last one", x.row(things - 1, 1), 1);
        }
    }

    private static void rowsOfNotAllPairs() {
        sentence("Promise 10, 'NONE .. if .. not all PAIRS are SAID'");
        for (int things = 2; things <= 6; things++) {
            for (int i = 0; i < things; i++) {
                for (int j = i + 1; j < things; j++) {
                    PairScales x = like(things);
                    x.unsay(j, i);
                    x.span(i, j, 1111);
                    dueRows(x, things, NONE);
                    x.say(j, i, 1, 1);
                    dueRows(x, things, 1);
                }
            }
            dueRows(new PairScales(things), things, NONE);
        }
    }

    private static void dueRows(PairScales x, int things, int want) {
        for (int i = 0; i < things; i++) {
            due("row(" + i + ", 0)", x.row(i, 0), want);
            due("row(" + i + ", 1)", x.row(i, 1), want);
        }
    }

    private static void orderOfNoSuchThing() {
        sentence("Promise 11, 'NONE if there is no such THING'");
        for (int things = 2; things <= 6; things++) {
            PairScales x = like(things);
            for (int no : outside(things)) {
                due("order(" + no + ", 0)", x.order(no, 0), NONE);
                due("order(0, " + no + ")", x.order(0, no), NONE);
                due("order(" + no + ", " + no + ")", x.order(no, no), NONE);
            }
            due("order of the first and the last one", x.order(0, things - 1), 0);
            due("order of the last and the first one", x.order(things - 1, 0), 0);
        }
    }

    private static void orderOfNotAllPairs() {
        sentence("Promise 11, 'NONE if .. not all PAIRS are SAID'");
        for (int things = 2; things <= 6; things++) {
            for (int i = 0; i < things; i++) {
                for (int j = i + 1; j < things; j++) {
                    PairScales x = like(things);
                    x.unsay(i, j);
                    dueOrders(x, things, NONE);
                    x.say(i, j, 1, 1);
                    dueOrders(x, things, 0);
                }
            }
        }
    }

    private static void dueOrders(PairScales x, int things, int want) {
        for (int i = 0; i < things; i++) {
            for (int j = 0; j < things; j++) {
                due("order(" + i + ", " + j + ")", x.order(i, j), want);
            }
        }
    }

    private static void orderOfLikeRows() {
        sentence("Promise 11, '1 if i has the greater ROW, 2 if j has, 0 if they are like'");
        PairScales x = like(6);
        int[] ofZero = {1, 8, 1, 5, 7, 5, 7, 5};
        int[] ofOne = {2, 9, 5, 9, 5, 9, 5, 7};
        for (int k = 0; k < 4; k++) {
            x.say(0, k + 2, ofZero[2 * k], ofZero[2 * k + 1]);
            x.say(1, k + 2, ofOne[2 * k], ofOne[2 * k + 1]);
        }
        // 49 by 1000 and 250 by 5103: as near as rows can come.
        due("row(0, 1)", x.row(0, 1), 1000);
        due("row(1, 1)", x.row(1, 1), 5103);
        due("order(0, 1), nearly like", x.order(0, 1), 1);
        due("order(1, 0), nearly like", x.order(1, 0), 2);
        due("order(0, 0)", x.order(0, 0), 0);
        PairScales y = full(3, 1, 1, 6, 8, 3, 4);
        due("order(0, 1), 6 by 8 and 3 by 4", y.order(0, 1), 0);
        due("order(1, 0), 6 by 8 and 3 by 4", y.order(1, 0), 0);
        due("order(0, 2)", y.order(0, 2), 2);
        due("order(2, 0)", y.order(2, 0), 1);
    }

    private static void likeRootsOfFewest() {
        sentence("Promise 12, 'of like ones the one of fewest THINGS'");
        for (int size = 4; size <= 6; size++) {
            for (int last = 2; last + 1 < size; last++) {
                PairScales x = new PairScales(size);
                int[] twos = new int[2 * size];
                for (int k = 0; k < size; k++) {
                    twos[2 * k] = 2;
                    twos[2 * k + 1] = 1;
                }
                sayRing(x, 0, twos);
                dueLeast(x, 1 << size, 1, size);
                x.say(last, 0, 2, 1);
                dueLeast(x, 1 << last + 1, 1, last + 1);
            }
        }
        // Not alike, though nearly: by seven in a million, once this way and once that way.
        PairScales near = new PairScales(6);
        sayRing(near, 0, 3, 8, 5, 8, 7, 1);
        sayRing(near, 2, 5, 9, 8, 7, 8, 7, 8, 3);
        dueLeast(near, 2560, 1323, 4);
        sayRing(near, 0, 8, 7, 8, 5, 8, 3);
        sayRing(near, 2, 3, 8, 7, 5, 7, 4, 9, 1);
        dueLeast(near, 512, 105, 3);
    }

    /** Powers of these tops and bottoms reach 2 to the 190th. */
    private static void rootsOfGreatPowers() {
        sentence("Promise 12, 'the greatest, over all RINGS, of the root of what the RING is off'");
        PairScales x = new PairScales(6);
        sayRing(x, 0, 9, 8, 9, 8, 9, 8, 9, 8, 9, 8, 9, 8);
        dueLeast(x, 531441, 262144, 6);
        x.say(4, 0, 9, 8);
        dueLeast(x, 59049, 32768, 5);
        x.say(4, 0, 8, 7);
        dueLeast(x, 6561, 3584, 5);
        x.say(4, 0, 1, 1);
        dueLeast(x, 531441, 262144, 6);
        x.say(4, 0, 9, 9);
        dueLeast(x, 531441, 262144, 6);
        x.say(4, 0, 1, 2);
        dueLeast(x, 81, 32, 3);
        PairScales y = new PairScales(6);
        sayRing(y, 0, 9, 7, 9, 7, 9, 7, 9, 7, 9, 7, 9, 7);
        dueLeast(y, 531441, 117649, 6);
        y.say(4, 0, 9, 7);
        dueLeast(y, 59049, 16807, 5);
        y.say(4, 0, 8, 7);
        dueLeast(y, 531441, 117649, 6);
        PairScales z = new PairScales(6);
        sayRing(z, 0, 9, 9, 9, 9, 9, 9, 9, 9, 9, 9, 7, 6);
        dueLeast(z, 7, 6, 6);
        z.say(4, 0, 7, 6);
        dueLeast(z, 7, 6, 5);
    }

    private static void noRingOrAllEven() {
        sentence("Promise 12, '1, 1 and 0 if there is no RING, or all are EVEN'");
        for (int things = 2; things <= 6; things++) {
            dueLeast(new PairScales(things), 1, 1, 0);
            dueLeast(evenByWeights(things), 1, 1, 0);
            PairScales row = new PairScales(things);
            PairScales star = new PairScales(things);
            for (int k = 1; k < things; k++) {
                row.say(k - 1, k, 9, 1);
                star.say(0, k, 9, 1);
            }
            dueLeast(row, 1, 1, 0);
            dueLeast(star, 1, 1, 0);
        }
        for (int size = 3; size <= 6; size++) {
            PairScales x = new PairScales(size);
            sayRing(x, 0, evenRing(size));
            dueLeast(x, 1, 1, 0);
            int top = nearlyEvenTop(size);
            sayRing(x, 0, nearlyEvenRing(size));
            dueLeast(x, top, top - 1, size);
            sayRing(x, 0, turned(nearlyEvenRing(size)));
            dueLeast(x, top, top - 1, size);
            x.unsay(0, 1);
            dueLeast(x, 1, 1, 0);
        }
    }

    private static void otherPartsOfLeast() {
        sentence("Promise 12, 'the top (what 0), the bottom (1) .., how many THINGS it has (2); NONE for others'");
        PairScales x = new PairScales(6);
        sayRing(x, 0, 1, 9, 1, 9, 1, 9, 1, 9, 1, 9, 1, 9);
        dueLeast(x, 531441, 1, 6);
        PairScales none = new PairScales(6);
        for (int what : outside(3)) {
            due("least(" + what + ")", x.least(what), NONE);
            due("least(" + what + "), no ring", none.least(what), NONE);
        }
    }

    public static void main(String[] args) {
        othersCountAsTheNearest();
        nothingSaidAtFirst();
        digitsOfSay();
        inPlaceOfWhatWasSaid();
        noSuchThingToSay();
        bothAreOneToSay();
        notSaidToUnsay();
        lowestTerms();
        otherPartsOfASaying();
        saidButNotThese();
        ringsHaveThreeAtLeast();
        ringsAreClosed();
        evenIfEachProductIsOne();
        firstOfLikeThrees();
        otherPartsOfTheWorst();
        noThreeAllSaid();
        notAllJoined();
        noneToBeLeftOut();
        leastAsANumber();
        bitsOfPairs();
        otherPartsOfARow();
        rowOfNoSuchThing();
        rowsOfNotAllPairs();
        orderOfNoSuchThing();
        orderOfNotAllPairs();
        orderOfLikeRows();
        likeRootsOfFewest();
        rootsOfGreatPowers();
        noRingOrAllEven();
        otherPartsOfLeast();
        end();
    }
}
