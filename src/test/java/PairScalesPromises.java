/** Each promise by hand: ordinary inputs, the edges that the document names, and wrong inputs. */
public final class PairScalesPromises {
    private static final int NONE = PairScales.NONE;
    private static final int[] NO_THINGS = {-1, 4, 6, 99, Integer.MIN_VALUE, Integer.MAX_VALUE};
    private static int wrong = 0;

    private static void due(int promise, String call, int got, int want) {
        if (got != want) {
            wrong++;
            System.out.println("promise " + promise + ": " + call + " answered " + got + ", due is " + want);
        }
    }

    private static void due(int promise, String call, boolean got, boolean want) {
        due(promise, call, got ? 1 : 0, want ? 1 : 0);
    }

    /** All pairs in their order, each as p, q. */
    private static PairScales full(int things, int... sayings) {
        PairScales x = new PairScales(things);
        int at = 0;
        for (int i = 0; i < things; i++) {
            for (int j = i + 1; j < things; j++) {
                due(2, "say while filling", x.say(i, j, sayings[at], sayings[at + 1]), true);
                at += 2;
            }
        }
        return x;
    }

    private static PairScales like(int things) {
        int[] ones = new int[things * (things - 1)];
        java.util.Arrays.fill(ones, 1);
        return full(things, ones);
    }

    private static void newObject() {
        int[] asked = {Integer.MIN_VALUE, -1, 0, 1, 2, 3, 4, 5, 6, 7, Integer.MAX_VALUE};
        int[] held = {2, 2, 2, 2, 2, 3, 4, 5, 6, 6, 6};
        for (int k = 0; k < asked.length; k++) {
            PairScales x = new PairScales(asked[k]);
            due(1, "count(0) of " + asked[k], x.count(0), held[k]);
            due(1, "count(1)", x.count(1), 0);
            due(1, "count(2)", x.count(2), 0);
            due(1, "said(0, 1, 0)", x.said(0, 1, 0), NONE);
            due(1, "even()", x.even(), true);
            due(1, "can()", x.can(), true);
            due(1, "trees()", x.trees(), 0);
            due(1, "few()", x.few(), 0);
            due(1, "left()", x.left(), 0);
            due(1, "least(0)", x.least(0), 1);
            due(1, "least(1)", x.least(1), 1);
            due(1, "least(2)", x.least(2), 0);
            due(1, "worst(0)", x.worst(0), NONE);
            due(1, "row(0, 0)", x.row(0, 0), NONE);
            due(1, "order(0, 1)", x.order(0, 1), NONE);
            due(1, "bound(0, 1, 0)", x.bound(0, 1, 0), NONE);
            due(1, "say of the last thing", x.say(held[k] - 1, 0, 1, 1), true);
            due(1, "say of the thing behind it", x.say(held[k], 0, 1, 1), false);
        }
    }

    private static void say() {
        PairScales x = new PairScales(4);
        due(2, "say(0, 1, 9, 1)", x.say(0, 1, 9, 1), true);
        due(2, "say(1, 0, 4, 6)", x.say(1, 0, 4, 6), true);
        due(2, "said(0, 1, 0)", x.said(0, 1, 0), 3);
        due(2, "said(0, 1, 1)", x.said(0, 1, 1), 2);
        due(2, "count(1)", x.count(1), 1);
        for (int no : NO_THINGS) {
            due(2, "say(" + no + ", 1, 1, 1)", x.say(no, 1, 1, 1), false);
            due(2, "say(1, " + no + ", 1, 1)", x.say(1, no, 1, 1), false);
        }
        for (int no : new int[] {Integer.MIN_VALUE, -1, 0, 10, 11, Integer.MAX_VALUE}) {
            due(2, "say(0, 1, " + no + ", 1)", x.say(0, 1, no, 1), false);
            due(2, "say(0, 1, 1, " + no + ")", x.say(0, 1, 1, no), false);
            due(2, "say(0, 2, " + no + ", 1)", x.say(0, 2, no, 1), false);
        }
        for (int i = 0; i < 4; i++) {
            due(2, "say of one thing over itself", x.say(i, i, 1, 1), false);
        }
        due(2, "said(0, 1, 0) after refusals", x.said(0, 1, 0), 3);
        due(2, "said(0, 1, 1) after refusals", x.said(0, 1, 1), 2);
        due(2, "said(0, 2, 0) after refusals", x.said(0, 2, 0), NONE);
        due(2, "count(1) after refusals", x.count(1), 1);
        for (int p = 1; p <= 9; p++) {
            due(2, "say(2, 3, p, q)", x.say(2, 3, p, 10 - p), true);
        }
    }

    private static void unsay() {
        PairScales x = new PairScales(4);
        due(3, "unsay(0, 1), never said", x.unsay(0, 1), false);
        x.say(0, 1, 2, 1);
        x.say(2, 3, 2, 1);
        x.span(0, 1, 1121);
        due(3, "unsay(1, 0)", x.unsay(1, 0), true);
        due(3, "said(0, 1, 0)", x.said(0, 1, 0), NONE);
        due(3, "said(1, 0, 0)", x.said(1, 0, 0), NONE);
        due(3, "unsay(0, 1) again", x.unsay(0, 1), false);
        due(3, "count(1)", x.count(1), 1);
        due(3, "count(2)", x.count(2), 1);
        due(3, "said(2, 3, 0)", x.said(2, 3, 0), 2);
        for (int no : NO_THINGS) {
            due(3, "unsay(" + no + ", 2)", x.unsay(no, 2), false);
            due(3, "unsay(2, " + no + ")", x.unsay(2, no), false);
        }
        due(3, "unsay(2, 2)", x.unsay(2, 2), false);
        due(3, "count(1)", x.count(1), 1);
    }

    private static void said() {
        PairScales x = new PairScales(4);
        x.say(3, 1, 6, 9);
        due(4, "said(3, 1, 0)", x.said(3, 1, 0), 2);
        due(4, "said(3, 1, 1)", x.said(3, 1, 1), 3);
        due(4, "said(1, 3, 0)", x.said(1, 3, 0), 3);
        due(4, "said(1, 3, 1)", x.said(1, 3, 1), 2);
        for (int what : new int[] {Integer.MIN_VALUE, -1, 2, 3, Integer.MAX_VALUE}) {
            due(4, "said(3, 1, " + what + ")", x.said(3, 1, what), NONE);
        }
        for (int no : NO_THINGS) {
            due(4, "said(" + no + ", 1, 0)", x.said(no, 1, 0), NONE);
            due(4, "said(1, " + no + ", 0)", x.said(1, no, 0), NONE);
        }
        due(4, "said(1, 1, 0)", x.said(1, 1, 0), NONE);
        due(4, "said(0, 1, 0)", x.said(0, 1, 0), NONE);
        x.span(0, 1, 1121);
        due(4, "said(0, 1, 0) of a span", x.said(0, 1, 0), NONE);
        x.say(0, 1, 8, 8);
        due(4, "said(0, 1, 0) of 8 by 8", x.said(0, 1, 0), 1);
        due(4, "said(0, 1, 1) of 8 by 8", x.said(0, 1, 1), 1);
    }

    private static void even() {
        PairScales x = new PairScales(5);
        x.say(0, 1, 2, 3);
        x.say(1, 2, 3, 4);
        x.say(2, 3, 4, 5);
        due(5, "even() without a ring", x.even(), true);
        x.say(3, 0, 5, 2);
        due(5, "even() of a ring of four", x.even(), true);
        x.say(0, 3, 5, 2);
        due(5, "even() of a ring of four that is off", x.even(), false);
        x.say(0, 3, 2, 5);
        x.say(0, 2, 1, 2);
        due(5, "even() with a chord", x.even(), true);
        x.say(2, 0, 1, 2);
        due(5, "even() with a chord that is off", x.even(), false);
        x.unsay(0, 2);
        due(5, "even() without it", x.even(), true);
        x.span(0, 2, 9191);
        x.span(2, 4, 9191);
        x.span(4, 0, 9191);
        due(5, "even() whatever the spans", x.even(), true);
        due(5, "even() of two things", full(2, 9, 1).even(), true);
    }

    private static void worst() {
        PairScales x = new PairScales(5);
        x.say(1, 2, 1, 9);
        x.say(2, 3, 1, 9);
        x.say(3, 4, 1, 9);
        x.say(4, 1, 1, 9);
        due(6, "worst(0) of a ring of four", x.worst(0), NONE);
        due(6, "worst(3) of a ring of four", x.worst(3), NONE);
        x.say(1, 3, 4, 6);
        dueWorst(x, 1, 3, 4, 243, 2);
        x.say(1, 3, 6, 4);
        dueWorst(x, 1, 2, 3, 243, 2);
        x.say(1, 3, 1, 9);
        dueWorst(x, 1, 3, 4, 729, 1);
        for (int what : new int[] {Integer.MIN_VALUE, -1, 5, Integer.MAX_VALUE}) {
            due(6, "worst(" + what + ")", x.worst(what), NONE);
        }
        dueWorst(like(6), 0, 1, 2, 1, 1);
        dueWorst(full(4, 1, 1, 1, 2, 2, 1, 1, 1, 1, 1, 1, 1), 0, 2, 3, 4, 1);
        // Two are off by 2: that of 0, 1 and 2 above 1, that of 0, 2 and 3 below.
        dueWorst(full(4, 1, 1, 1, 2, 1, 1, 1, 1, 1, 1, 1, 1), 0, 1, 2, 2, 1);
        dueWorst(full(4, 1, 1, 1, 1, 1, 1, 1, 1, 1, 1, 7, 5), 0, 2, 3, 7, 5);
        // 9 by 8 and 8 by 7 lie near each other: the greater one is not that of the greater top.
        dueWorst(full(4, 1, 1, 1, 1, 8, 7, 9, 8, 1, 1, 1, 1), 0, 1, 3, 8, 7);
    }

    private static void dueWorst(PairScales x, int i, int j, int k, int top, int bottom) {
        due(6, "worst(0)", x.worst(0), i);
        due(6, "worst(1)", x.worst(1), j);
        due(6, "worst(2)", x.worst(2), k);
        due(6, "worst(3)", x.worst(3), top);
        due(6, "worst(4)", x.worst(4), bottom);
    }

    private static void trees() {
        int[] ofAll = {0, 0, 1, 3, 16, 125, 1296};
        for (int things = 2; things <= 6; things++) {
            due(7, "trees() of all of " + things, like(things).trees(), ofAll[things]);
        }
        PairScales x = new PairScales(6);
        x.say(0, 1, 1, 1);
        x.say(1, 2, 1, 1);
        x.say(2, 0, 5, 1);
        x.say(3, 4, 1, 1);
        x.say(4, 5, 1, 1);
        x.say(5, 3, 1, 1);
        due(7, "trees() of two heaps", x.trees(), 0);
        x.say(0, 3, 2, 1);
        due(7, "trees() of two rings and a bridge", x.trees(), 9);
        x.say(1, 4, 2, 1);
        due(7, "trees() of two rings and two bridges", x.trees(), 30);
        x.unsay(1, 4);
        x.unsay(0, 3);
        due(7, "trees() without bridges", x.trees(), 0);
        PairScales y = new PairScales(6);
        for (int i = 1; i < 6; i++) {
            y.say(0, i, 1, 1);
        }
        due(7, "trees() of a star", y.trees(), 1);
        y.unsay(5, 0);
        due(7, "trees() of a star and one alone", y.trees(), 0);
    }

    private static void fewAndLeft() {
        dueLeft(like(6), 0, 0);
        dueLeft(full(3, 2, 1, 1, 1, 1, 1), 1, 1);
        dueLeft(full(4, 1, 1, 1, 1, 1, 1, 1, 1, 1, 1, 2, 1), 1, 32);
        dueLeft(full(4, 1, 1, 1, 1, 1, 1, 1, 1, 2, 1, 1, 1), 1, 16);
        // Pairs 0 and 5 would do as well; but without 2 and 3, the ring of the other four is even.
        dueLeft(full(4, 2, 1, 1, 1, 1, 1, 1, 1, 1, 1, 2, 1), 2, 12);
        // No ring is even, so a tree must be left: 7 would leave the ring of 1, 2 and 3.
        dueLeft(full(4, 9, 1, 8, 1, 7, 1, 6, 1, 5, 1, 4, 1), 3, 11);
        PairScales x = new PairScales(6);
        x.say(3, 4, 2, 1);
        x.say(4, 5, 2, 1);
        x.say(3, 5, 2, 1);
        dueLeft(x, 1, 1 << 12);
        x.say(0, 1, 2, 1);
        x.say(1, 2, 2, 1);
        x.say(0, 2, 2, 1);
        dueLeft(x, 2, 1 << 12 | 1);
        x.unsay(5, 3);
        dueLeft(x, 1, 1);
        // 2 by 1 thrice is 8 by 1, and 3 by 1 twice is 9 by 1.
        PairScales y = new PairScales(4);
        y.say(0, 1, 2, 1);
        y.say(1, 2, 2, 1);
        y.say(2, 3, 2, 1);
        y.say(0, 3, 8, 1);
        dueLeft(y, 0, 0);
        y.say(0, 3, 9, 1);
        dueLeft(y, 1, 1);
    }

    private static void dueLeft(PairScales x, int few, int left) {
        due(8, "few()", x.few(), few);
        due(9, "left()", x.left(), left);
    }

    private static void row() {
        PairScales x = full(4, 2, 1, 6, 4, 9, 3, 5, 7, 1, 1, 8, 9);
        dueRow(x, 0, 9, 1);
        dueRow(x, 1, 5, 14);
        dueRow(x, 2, 112, 135);
        dueRow(x, 3, 3, 8);
        for (int no : NO_THINGS) {
            due(10, "row(" + no + ", 0)", x.row(no, 0), NONE);
        }
        for (int what : new int[] {Integer.MIN_VALUE, -1, 2, Integer.MAX_VALUE}) {
            due(10, "row(0, " + what + ")", x.row(0, what), NONE);
        }
        x.unsay(2, 3);
        due(10, "row(0, 0), not all said", x.row(0, 0), NONE);
        due(10, "row(0, 1), not all said", x.row(0, 1), NONE);
        PairScales y = like(6);
        for (int j = 1; j < 6; j++) {
            y.say(0, j, 9, 1);
        }
        dueRow(y, 0, 59049, 1);
        dueRow(y, 5, 1, 9);
        dueRow(full(2, 6, 8), 1, 4, 3);
    }

    private static void dueRow(PairScales x, int i, int top, int bottom) {
        due(10, "row(" + i + ", 0)", x.row(i, 0), top);
        due(10, "row(" + i + ", 1)", x.row(i, 1), bottom);
    }

    private static void order() {
        PairScales x = full(4, 2, 1, 6, 4, 9, 3, 5, 7, 1, 1, 8, 9);
        due(11, "order(0, 1)", x.order(0, 1), 1);
        due(11, "order(1, 0)", x.order(1, 0), 2);
        due(11, "order(1, 3)", x.order(1, 3), 2);
        due(11, "order(2, 3)", x.order(2, 3), 1);
        due(11, "order(2, 2)", x.order(2, 2), 0);
        for (int no : NO_THINGS) {
            due(11, "order(" + no + ", 0)", x.order(no, 0), NONE);
            due(11, "order(0, " + no + ")", x.order(0, no), NONE);
            due(11, "order of no thing with itself", x.order(no, no), NONE);
        }
        x.unsay(0, 1);
        due(11, "order(2, 3), not all said", x.order(2, 3), NONE);
        due(11, "order(2, 2), not all said", x.order(2, 2), NONE);
        due(11, "order(0, 5) of like ones", like(6).order(0, 5), 0);
        due(11, "order(0, 1), 4 by 2 like 2 by 1", full(3, 1, 1, 4, 2, 2, 1).order(0, 1), 0);
    }

    private static void least() {
        dueLeast(like(6), 1, 1, 0);
        PairScales tree = new PairScales(3);
        tree.say(0, 1, 9, 1);
        tree.say(0, 2, 9, 1);
        dueLeast(tree, 1, 1, 0);
        dueLeast(full(2, 9, 1), 1, 1, 0);
        dueLeast(full(3, 2, 3, 1, 1, 1, 1), 3, 2, 3);
        dueLeast(ring(9, 1, 9, 1, 9, 1, 9, 1, 9, 1), 59049, 1, 5);
        dueLeast(ring(1, 9, 1, 9, 1, 9, 1, 9), 6561, 1, 4);
        dueLeast(ring(4, 6, 2, 3, 9, 4, 1, 7), 7, 1, 4);
        // Like roots: rings of six, of four and of three, each saying of which is 2 by 1.
        PairScales x = ring(2, 1, 2, 1, 2, 1, 2, 1, 2, 1, 2, 1);
        dueLeast(x, 64, 1, 6);
        x.say(3, 0, 2, 1);
        dueLeast(x, 16, 1, 4);
        x.say(2, 0, 2, 1);
        dueLeast(x, 8, 1, 3);
        // The third root of 3 by 2 is above the fourth one of 5 by 3, though 3 by 2 is below it;
        // it is not above that of 9 by 5.
        PairScales y = new PairScales(6);
        y.say(0, 1, 3, 2);
        y.say(1, 2, 1, 1);
        y.say(2, 0, 1, 1);
        y.say(2, 3, 1, 1);
        y.say(3, 4, 1, 1);
        y.say(4, 5, 1, 1);
        y.say(5, 2, 5, 3);
        dueLeast(y, 3, 2, 3);
        y.say(5, 2, 9, 5);
        dueLeast(y, 9, 5, 4);
        for (int what : new int[] {Integer.MIN_VALUE, -1, 3, Integer.MAX_VALUE}) {
            due(12, "least(" + what + ")", y.least(what), NONE);
        }
    }

    /** One ring of things, each over the next one, as p, q. */
    private static PairScales ring(int... sayings) {
        int things = sayings.length / 2;
        PairScales x = new PairScales(things);
        for (int i = 0; i < things; i++) {
            x.say(i, (i + 1) % things, sayings[2 * i], sayings[2 * i + 1]);
        }
        return x;
    }

    private static void dueLeast(PairScales x, int top, int bottom, int size) {
        due(12, "least(0)", x.least(0), top);
        due(12, "least(1)", x.least(1), bottom);
        due(12, "least(2)", x.least(2), size);
    }

    private static void span() {
        PairScales x = new PairScales(4);
        due(13, "span(0, 1, 1234)", x.span(0, 1, 1234), true);
        due(13, "span(0, 1, 4321)", x.span(0, 1, 4321), true);
        due(13, "span(0, 1, 2346)", x.span(0, 1, 2346), true);
        due(13, "span(0, 1, 9999)", x.span(0, 1, 9999), true);
        due(13, "span(1, 0, 4657)", x.span(1, 0, 4657), true);
        int[] no = {Integer.MIN_VALUE, -1234, -1111, -1, 0, 1, 111, 1110, 1101, 1011, 999, 10000, 11111, 12345,
            21112, Integer.MAX_VALUE, 2111, 9198, 2335, 4323};
        for (int ends : no) {
            due(13, "span(0, 1, " + ends + ")", x.span(0, 1, ends), false);
            due(13, "span(2, 3, " + ends + ")", x.span(2, 3, ends), false);
        }
        for (int thing : NO_THINGS) {
            due(13, "span(" + thing + ", 1, 1111)", x.span(thing, 1, 1111), false);
            due(13, "span(1, " + thing + ", 1111)", x.span(1, thing, 1111), false);
        }
        due(13, "span(3, 3, 1111)", x.span(3, 3, 1111), false);
        due(13, "count(2)", x.count(2), 1);
        due(13, "count(1)", x.count(1), 0);
        dueBound(x, 1, 0, 2, 3);
        dueBound(x, 0, 1, 7, 5);
        due(13, "a span that contradicts others", x.span(1, 2, 9191), true);
        due(13, "a span that contradicts others", x.span(2, 0, 9191), true);
        due(13, "count(2)", x.count(2), 3);
    }

    private static void unspan() {
        PairScales x = new PairScales(4);
        due(14, "unspan(0, 1), never spanned", x.unspan(0, 1), false);
        x.say(0, 1, 1, 1);
        due(14, "unspan(0, 1), but said", x.unspan(0, 1), false);
        x.span(0, 1, 1121);
        x.span(2, 1, 1121);
        due(14, "unspan(1, 0)", x.unspan(1, 0), true);
        due(14, "unspan(0, 1) again", x.unspan(0, 1), false);
        due(14, "count(2)", x.count(2), 1);
        due(14, "count(1)", x.count(1), 1);
        due(14, "bound(0, 1, 0)", x.bound(0, 1, 0), NONE);
        due(14, "bound(1, 0, 0)", x.bound(1, 0, 0), NONE);
        for (int no : NO_THINGS) {
            due(14, "unspan(" + no + ", 1)", x.unspan(no, 1), false);
            due(14, "unspan(1, " + no + ")", x.unspan(1, no), false);
        }
        due(14, "unspan(1, 1)", x.unspan(1, 1), false);
        due(14, "unspan(2, 1)", x.unspan(2, 1), true);
        due(14, "count(2)", x.count(2), 0);
    }

    private static void can() {
        PairScales x = new PairScales(6);
        x.span(0, 1, 2131);
        x.span(1, 2, 2131);
        x.span(2, 0, 1411);
        due(15, "can(), the upper ends touched", x.can(), true);
        x.span(2, 0, 1919);
        due(15, "can(), the lower ends touched", x.can(), true);
        x.span(2, 0, 2711);
        due(15, "can(), above by a little", x.can(), false);
        x.span(2, 0, 1911);
        due(15, "can(), wide", x.can(), true);
        x.span(0, 2, 1131);
        due(15, "can(), below", x.can(), false);
        x.unspan(0, 2);
        due(15, "can(), a way only", x.can(), true);
        for (int i = 0; i < 6; i++) {
            x.span(i, (i + 1) % 6, 1122);
        }
        due(15, "can(), a ring of six", x.can(), true);
        x.span(3, 4, 9821);
        due(15, "can(), a ring of six above", x.can(), false);
        x.span(3, 4, 1928);
        due(15, "can(), a ring of six below", x.can(), false);
        x.unspan(3, 4);
        x.say(0, 1, 1, 9);
        x.say(1, 2, 1, 9);
        x.say(2, 0, 1, 9);
        due(15, "can() whatever the sayings", x.can(), true);
    }

    private static void bound() {
        PairScales x = new PairScales(4);
        x.span(0, 1, 4653);
        dueBound(x, 0, 1, 2, 3);
        dueBound(x, 1, 0, 3, 5);
        dueBound(x, 0, 2, NONE, NONE);
        x.span(1, 2, 3141);
        dueBound(x, 0, 2, 2, 1);
        dueBound(x, 2, 0, 3, 20);
        x.span(0, 2, 1151);
        dueBound(x, 0, 2, 2, 1);
        dueBound(x, 2, 0, 1, 5);
        dueBound(x, 0, 1, 2, 3);
        dueBound(x, 1, 0, 3, 5);
        dueBound(x, 3, 0, NONE, NONE);
        for (int what : new int[] {Integer.MIN_VALUE, -1, 2, Integer.MAX_VALUE}) {
            due(16, "bound(0, 1, " + what + ")", x.bound(0, 1, what), NONE);
        }
        for (int no : NO_THINGS) {
            due(16, "bound(" + no + ", 1, 0)", x.bound(no, 1, 0), NONE);
            due(16, "bound(1, " + no + ", 0)", x.bound(1, no, 0), NONE);
        }
        due(16, "bound(1, 1, 0)", x.bound(1, 1, 0), NONE);
        due(16, "bound(1, 1, 1)", x.bound(1, 1, 1), NONE);
        x.span(0, 2, 6171);
        dueBound(x, 0, 1, 3, 2);
        x.span(0, 2, 7191);
        due(15, "can()", x.can(), false);
        dueBound(x, 0, 1, NONE, NONE);
        dueBound(x, 3, 0, NONE, NONE);
        PairScales y = new PairScales(6);
        for (int i = 0; i < 5; i++) {
            y.span(i, i + 1, 9191);
        }
        dueBound(y, 0, 5, 59049, 1);
        dueBound(y, 5, 0, 1, 59049);
        y.say(0, 5, 1, 1);
        dueBound(y, 0, 5, 59049, 1);
    }

    private static void dueBound(PairScales x, int i, int j, int top, int bottom) {
        due(16, "bound(" + i + ", " + j + ", 0)", x.bound(i, j, 0), top);
        due(16, "bound(" + i + ", " + j + ", 1)", x.bound(i, j, 1), bottom);
    }

    private static void count() {
        PairScales x = like(5);
        due(17, "count(0)", x.count(0), 5);
        due(17, "count(1)", x.count(1), 10);
        due(17, "count(2)", x.count(2), 0);
        x.span(0, 1, 1111);
        x.span(1, 0, 1111);
        x.span(2, 0, 1111);
        x.say(1, 0, 2, 1);
        due(17, "count(1) after a change", x.count(1), 10);
        due(17, "count(2)", x.count(2), 2);
        x.unsay(0, 1);
        due(17, "count(1)", x.count(1), 9);
        due(17, "count(2)", x.count(2), 2);
        for (int what : new int[] {Integer.MIN_VALUE, -1, 3, Integer.MAX_VALUE}) {
            due(17, "count(" + what + ")", x.count(what), NONE);
        }
    }

    public static void main(String[] args) {
        due(1, "NONE", NONE, -1);
        newObject();
        say();
        unsay();
        said();
        even();
        worst();
        trees();
        fewAndLeft();
        row();
        order();
        least();
        span();
        unspan();
        can();
        bound();
        count();
        System.out.println(wrong == 0 ? "all answers are as due" : wrong + " answers are not as due");
        if (wrong != 0) {
            System.exit(1);
        }
    }
}
