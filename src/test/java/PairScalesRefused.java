/**
 * What holds for all calls: what is refused changes nothing, an object holds for 512 calls, and no
 * call throws, whatever it is given.
 */
public final class PairScalesRefused extends EdgeTest {
    private static final int CALLS = 512;
    private static final int[] FAR = {Integer.MIN_VALUE, Integer.MIN_VALUE + 1, -1, 0, 1, 5, 6, 9, 10, 32, 1111,
        Integer.MAX_VALUE - 1, Integer.MAX_VALUE};

    /** No pairs are said and spanned (0), some (1), all but that of 0 and 1 (2), or all (3). */
    private static PairScales held(int things, int state) {
        PairScales x = new PairScales(things);
        int pair = 0;
        for (int i = 0; i < things; i++) {
            for (int j = i + 1; j < things; j++) {
                boolean holds = state == 3 || state == 2 && pair > 0 || state == 1 && pair % 3 == 1;
                if (holds) {
                    x.say(i, j, 1 + pair % 9, 9 - pair / 2);
                    x.span(i, j, 1000 + (9 - pair % 4) * 100 + (9 - pair % 5) * 10 + 1);
                }
                pair++;
            }
        }
        return x;
    }

    /** All that can be asked of an object, which is less than 200 calls. */
    private static String answers(PairScales x) {
        StringBuilder told = new StringBuilder();
        int things = x.count(0);
        told.append(things).append(' ').append(x.count(1)).append(' ').append(x.count(2)).append(' ');
        told.append(x.even()).append(' ').append(x.can()).append(' ').append(x.trees()).append(' ');
        told.append(x.few()).append(' ').append(x.left()).append(' ');
        for (int what = 0; what < 5; what++) {
            told.append(x.worst(what)).append(' ');
        }
        for (int what = 0; what < 3; what++) {
            told.append(x.least(what)).append(' ');
        }
        for (int i = 0; i < things; i++) {
            told.append(x.row(i, 0)).append(' ').append(x.row(i, 1)).append(' ');
            for (int j = 0; j < things; j++) {
                told.append(x.order(i, j)).append(' ');
                if (i != j) {
                    told.append(x.said(i, j, 0)).append(' ').append(x.said(i, j, 1)).append(' ');
                    told.append(x.bound(i, j, 0)).append(' ').append(x.bound(i, j, 1)).append(' ');
                }
            }
        }
        return told.toString();
    }

    private static void sayingsRefused() {
        sentence("Terms, 'What is refused changes nothing': say, unsay");
        for (int things = 2; things <= 6; things++) {
            for (int state = 0; state <= 3; state++) {
                String before = answers(held(things, state));
                for (int no : outside(things)) {
                    PairScales x = held(things, state);
                    due("say(" + no + ", 0, 7, 5)", x.say(no, 0, 7, 5), false);
                    due("say(0, " + no + ", 7, 5)", x.say(0, no, 7, 5), false);
                    due("unsay(" + no + ", 1)", x.unsay(no, 1), false);
                    due("unsay(1, " + no + ")", x.unsay(1, no), false);
                    due("all after " + no + " as a thing", answers(x), before);
                }
                for (int no : new int[] {Integer.MIN_VALUE, -1, 0, 10, 11, 257, Integer.MAX_VALUE}) {
                    PairScales x = held(things, state);
                    due("say(0, 1, " + no + ", 5)", x.say(0, 1, no, 5), false);
                    due("say(0, 1, 5, " + no + ")", x.say(0, 1, 5, no), false);
                    due("say(1, 0, " + no + ", " + no + ")", x.say(1, 0, no, no), false);
                    due("all after " + no + " as a digit", answers(x), before);
                }
                PairScales x = held(things, state);
                due("say(1, 1, 2, 3)", x.say(1, 1, 2, 3), false);
                due("unsay(1, 1)", x.unsay(1, 1), false);
                boolean isHeld = state == 3;
                due("unsay(0, 1)", x.unsay(0, 1), isHeld);
                due("unsay(1, 0) behind it", x.unsay(1, 0), false);
                if (isHeld) {
                    x.say(0, 1, 1, 9);
                }
                due("all after sayings refused", answers(x), before);
            }
        }
    }

    private static void spansRefused() {
        sentence("Terms, 'What is refused changes nothing': span, unspan");
        for (int things = 2; things <= 6; things++) {
            for (int state = 0; state <= 3; state++) {
                String before = answers(held(things, state));
                for (int no : outside(things)) {
                    PairScales x = held(things, state);
                    due("span(" + no + ", 0, 1121)", x.span(no, 0, 1121), false);
                    due("span(0, " + no + ", 1121)", x.span(0, no, 1121), false);
                    due("unspan(" + no + ", 1)", x.unspan(no, 1), false);
                    due("unspan(1, " + no + ")", x.unspan(1, no), false);
                    due("all after " + no + " as a thing", answers(x), before);
                }
                for (int no : new int[] {Integer.MIN_VALUE, -1121, 0, 111, 1011, 1101, 1110, 2111, 9989, 10111,
                    11110, Integer.MAX_VALUE}) {
                    PairScales x = held(things, state);
                    due("span(0, 1, " + no + ")", x.span(0, 1, no), false);
                    due("span(1, 0, " + no + ")", x.span(1, 0, no), false);
                    due("all after " + no + " as ends", answers(x), before);
                }
                PairScales x = held(things, state);
                due("span(1, 1, 1111)", x.span(1, 1, 1111), false);
                due("unspan(1, 1)", x.unspan(1, 1), false);
                boolean isHeld = state == 3;
                due("unspan(0, 1)", x.unspan(0, 1), isHeld);
                due("unspan(1, 0) behind it", x.unspan(1, 0), false);
                if (isHeld) {
                    x.span(0, 1, 1991);
                }
                due("all after spans refused", answers(x), before);
            }
        }
    }

    private static void questionsRefused() {
        sentence("Terms, 'What is refused changes nothing': questions");
        for (int state = 0; state <= 3; state++) {
            String before = answers(held(6, state));
            for (int no : outside(6)) {
                PairScales x = held(6, state);
                due("said(" + no + ", 0, 0)", x.said(no, 0, 0), NONE);
                due("said(0, 1, " + no + ")", x.said(0, 1, no), NONE);
                due("worst(" + no + ")", x.worst(no), NONE);
                due("row(" + no + ", 0)", x.row(no, 0), NONE);
                due("row(0, " + no + ")", x.row(0, no), NONE);
                due("order(0, " + no + ")", x.order(0, no), NONE);
                due("least(" + no + ")", x.least(no), NONE);
                due("bound(" + no + ", 0, 0)", x.bound(no, 0, 0), NONE);
                due("bound(0, 1, " + no + ")", x.bound(0, 1, no), NONE);
                due("count(" + no + ")", x.count(no), NONE);
                due("all after questions of " + no, answers(x), before);
                due("all, asked once more", answers(x), before);
            }
        }
    }

    /** So many calls of all kinds. */
    private static void use(PairScales x, int calls) {
        for (int call = calls; call > 0; call--) {
            int i = call % 6;
            int j = (i + 1 + call / 6 % 5) % 6;
            switch (call % 11) {
                case 0 -> x.say(i, j, 1 + call % 9, 1 + call / 9 % 9);
                case 1 -> x.unsay(i, j);
                case 2 -> x.span(i, j, 1191);
                case 3 -> x.unspan(i, j);
                case 4 -> x.few();
                case 5 -> x.left();
                case 6 -> x.least(2);
                case 7 -> x.bound(i, j, 0);
                case 8 -> x.worst(3);
                case 9 -> x.trees();
                default -> x.even();
            }
        }
    }

    /** As weights 9, 1, 1, 1, 1, 1 have it; or 1 over 2, which is pair 5, is off. */
    private static void sayAll(PairScales x, boolean off) {
        for (int i = 0; i < 6; i++) {
            for (int j = i + 1; j < 6; j++) {
                x.say(i, j, i == 0 ? 9 : 1, off && i == 1 && j == 2 ? 2 : 1);
            }
        }
    }

    /** No thing is below the next ones; or 0 is to be below 5 nevertheless. */
    private static void spanAll(PairScales x, boolean off) {
        for (int i = 0; i < 6; i++) {
            for (int j = i + 1; j < 6; j++) {
                int ends = off ? 1989 : 3191;
                x.span(i, j, i == 0 && j == 5 ? ends : 1191);
            }
        }
    }

    /** After 511 calls, the last 15 of which said all pairs. */
    private static PairScales saidOut(boolean off) {
        PairScales x = new PairScales(6);
        use(x, CALLS - 1 - 15);
        sayAll(x, off);
        return x;
    }

    /** After 511 calls, the last 15 of which spanned all pairs. */
    private static PairScales spannedOut(boolean off) {
        PairScales x = new PairScales(6);
        use(x, CALLS - 1 - 15);
        spanAll(x, off);
        return x;
    }

    private static void lastOf512() {
        sentence("What it is, 'An object is used for at most 512 calls after it has been made'");
        due("say(5, 0, 9, 9) as the last call", saidOut(false).say(5, 0, 9, 9), true);
        due("say(5, 0, 9, 10) as the last call", saidOut(false).say(5, 0, 9, 10), false);
        due("unsay(5, 0) as the last call", saidOut(false).unsay(5, 0), true);
        due("unsay(5, 5) as the last call", saidOut(false).unsay(5, 5), false);
        due("said(0, 5, 0) as the last call", saidOut(false).said(0, 5, 0), 9);
        due("even() as the last call", saidOut(false).even(), true);
        due("even() as the last call", saidOut(true).even(), false);
        due("worst(2) as the last call", saidOut(false).worst(2), 2);
        due("worst(3) as the last call", saidOut(true).worst(3), 2);
        due("trees() as the last call", saidOut(false).trees(), 1296);
        due("few() as the last call", saidOut(false).few(), 0);
        due("few() as the last call", saidOut(true).few(), 1);
        due("left() as the last call", saidOut(false).left(), 0);
        due("left() as the last call", saidOut(true).left(), 32);
        due("row(0, 0) as the last call", saidOut(false).row(0, 0), 59049);
        due("order(0, 5) as the last call", saidOut(false).order(0, 5), 1);
        due("least(2) as the last call", saidOut(false).least(2), 0);
        due("least(2) as the last call", saidOut(true).least(2), 3);
        due("span(5, 0, 9999) as the last call", spannedOut(false).span(5, 0, 9999), true);
        due("span(5, 0, 9989) as the last call", spannedOut(false).span(5, 0, 9989), false);
        due("unspan(5, 0) as the last call", spannedOut(false).unspan(5, 0), true);
        due("unspan(5, 5) as the last call", spannedOut(false).unspan(5, 5), false);
        due("can() as the last call", spannedOut(false).can(), true);
        due("can() as the last call", spannedOut(true).can(), false);
        due("bound(0, 5, 0) as the last call", spannedOut(false).bound(0, 5, 0), 3);
        due("bound(0, 5, 0) as the last call", spannedOut(true).bound(0, 5, 0), NONE);
        due("count(1) as the last call", saidOut(false).count(1), 15);
        due("count(2) as the last call", spannedOut(false).count(2), 15);
        PairScales x = new PairScales(6);
        for (int call = 1; call < CALLS; call++) {
            due("call " + call + " of one pair", call % 2 == 1 ? x.say(0, 1, 2, 1) : x.unsay(1, 0), true);
        }
        due("said(0, 1, 0) as the last call", x.said(0, 1, 0), 2);
    }

    /** Rule 7 of LANGUAGE.md holds in each state, also where the document leaves the answers free. */
    private static void neverThrows() {
        sentence("LANGUAGE.md, 'No call may ever throw or fail to end, for any arguments in any state'");
        for (int things = 2; things <= 6; things++) {
            for (int state = 0; state <= 3; state++) {
                PairScales x = held(things, state);
                due("calls of " + things + " things with any arguments", thrownBy(x), "nothing");
            }
        }
    }

    private static String thrownBy(PairScales x) {
        try {
            for (int a : FAR) {
                callWith(x, a);
                for (int b : FAR) {
                    x.unsay(a, b);
                    x.unspan(a, b);
                    x.row(a, b);
                    x.order(a, b);
                    for (int c : FAR) {
                        x.said(a, b, c);
                        x.bound(a, b, c);
                        x.span(a, b, c);
                        x.say(a, b, c, a);
                        x.say(a, b, 1, c);
                    }
                }
            }
            return "nothing";
        } catch (RuntimeException | StackOverflowError e) {
            return e.toString();
        }
    }

    private static void callWith(PairScales x, int a) {
        x.worst(a);
        x.least(a);
        x.count(a);
        x.even();
        x.trees();
        x.few();
        x.left();
        x.can();
    }

    public static void main(String[] args) {
        sayingsRefused();
        spansRefused();
        questionsRefused();
        lastOf512();
        neverThrows();
        end();
    }
}
