/** Promises 23 to 28, edge by edge: each test is headed by the document's words that it is for. */
final class ShoutsEdgesTest {
    private static final int LEAST = Integer.MIN_VALUE, GREATEST = Integer.MAX_VALUE;

    public static void main(String[] args) {
        shoutBounds();
        shoutsAtMost6();
        bearsOfEveryShout();
        bearsByAllShouts();
        listenOfEveryRange();
        listenToNone();
        writeBounds();
        bookOf15();
        tearBoth();
        judgeTheFirst();
        judgeEveryState();
        judgeNow();
        Check.finish();
    }

    /** "at a DEPTH (0 .. 10)"; "OUTSIDE" */
    private static void shoutBounds() {
        BathingCourt x = new BathingCourt();
        for (int depth : new int[] {LEAST, -1, 11, 12, GREATEST}) {
            Check.due("shout(" + depth + ", true)", x.shout(depth, true), Check.OUTSIDE);
            Check.due("shout(" + depth + ", false)", x.shout(depth, false), Check.OUTSIDE);
        }
        Check.due("told(10)", x.told(10), 0);
        Check.due("shout(0, false)", x.shout(0, false), 1);
        Check.due("shout(10, true)", x.shout(10, true), 2);
        Check.due("told(10)", x.told(10), 2);
    }

    /** "SHOUTS (6 at most)"; "FULL (6)" */
    private static void shoutsAtMost6() {
        BathingCourt x = new BathingCourt();
        for (int i = 1; i <= 6; i++) {
            Check.due("shout(), " + i, x.shout(10 - i, true), i);
        }
        Check.due("bears(), the sixth counts", x.bears(), 15);
        for (int depth : new int[] {0, 3, 10}) {
            Check.due("shout(" + depth + ", true), a seventh", x.shout(depth, true), Check.FULL);
        }
        for (int depth : new int[] {-1, 11}) {
            Check.due("shout(" + depth + ", true), a seventh", x.shout(depth, true), Check.OUTSIDE);
        }
        Check.due("told(10)", x.told(10), 6);
        Check.due("bears(), the seventh does not", x.bears(), 15);
        Check.due("tear()", x.tear(), 6);
        Check.due("shout(0, false), the first again", x.shout(0, false), 1);
    }

    /** "it shouts, where it is more than it BEARS"; "numbers 0 to 10 (a SET)" */
    private static void bearsOfEveryShout() {
        Check.due("bears() of none", new BathingCourt().bears(), 2047);
        for (int depth = 0; depth <= 10; depth++) {
            BathingCourt loud = new BathingCourt();
            loud.shout(depth, true);
            Check.due("bears(), it shouted at " + depth, loud.bears(), (1 << depth) - 1);
            BathingCourt still = new BathingCourt();
            still.shout(depth, false);
            Check.due("bears(), it did not at " + depth, still.bears(), 2047 & -1 << depth);
        }
    }

    /** "by which all SHOUTS are so" */
    private static void bearsByAllShouts() {
        for (int low = 0; low <= 10; low++) {
            for (int high = 0; high <= 10; high++) {
                BathingCourt x = new BathingCourt();
                x.shout(low, false);
                x.shout(high, true);
                int want = (1 << high) - 1 & -1 << low;
                Check.due("bears(), " + low + " not, " + high + " shouted", x.bears(), want);
                x.shout(low, false);
                x.shout(high, true);
                Check.due("bears(), the same told twice", x.bears(), want);
            }
        }
    }

    /** "the DEPTH (0 .. 10) by which these are told apart best: the greatest part that is alike is least; of like ones the least" */
    private static void listenOfEveryRange() {
        Check.due("listen() of none", new BathingCourt().listen(), 5);
        for (int low = 0; low <= 10; low++) {
            for (int high = low + 1; high <= 11; high++) {
                BathingCourt x = new BathingCourt();
                x.shout(low, false);
                if (high <= 10) {
                    x.shout(high, true);
                }
                // It bears one of low .. high - 1, so the lower half (if they are odd, the lesser part) shouts.
                int many = high - low;
                Check.due("listen() of " + low + " .. " + (high - 1), x.listen(), many == 1 ? Check.NONE : low + many / 2);
            }
        }
    }

    /** "NONE: none parts them" */
    private static void listenToNone() {
        BathingCourt none = new BathingCourt();
        none.shout(0, true);
        Check.due("listen() of no number", none.listen(), Check.NONE);
        BathingCourt zero = new BathingCourt();
        zero.shout(1, true);
        Check.due("listen() of 0 alone", zero.listen(), Check.NONE);
        BathingCourt ten = new BathingCourt();
        ten.shout(10, false);
        Check.due("listen() of 10 alone", ten.listen(), Check.NONE);
        BathingCourt two = new BathingCourt();
        two.shout(2, true);
        Check.due("listen() of 0, 1", two.listen(), 1);
        BathingCourt last = new BathingCourt();
        last.shout(9, false);
        Check.due("listen() of 9, 10", last.listen(), 10);
        BathingCourt against = new BathingCourt();
        against.shout(5, true);
        against.shout(5, false);
        Check.due("listen() of what cannot be", against.listen(), Check.NONE);
    }

    /** "An entry behind THE BOOK (0 .. 4): how many. UNKNOWN, OUTSIDE" */
    private static void writeBounds() {
        BathingCourt x = Check.court("b0;" + "c1 1 0 0;".repeat(5));
        for (int is : new int[] {LEAST, -1, 5, 6, GREATEST}) {
            Check.due("write(0, " + is + ")", x.write(0, is), Check.OUTSIDE);
        }
        for (int c : new int[] {LEAST, -1, 5, 6, GREATEST}) {
            Check.due("write(" + c + ", 0)", x.write(c, 0), Check.UNKNOWN);
            Check.due("write(" + c + ", 5)", x.write(c, 5), Check.UNKNOWN);
        }
        Check.due("told(11)", x.told(11), 0);
        for (int is = 0; is <= 4; is++) {
            Check.due("write(" + is + ", " + is + ")", x.write(is, is), is + 1);
        }
        Check.due("write(0, 0), of a case that was told", x.write(0, 0), 6);
        Check.due("no beach: write(0, 0)", new BathingCourt().write(0, 0), Check.UNKNOWN);
        Check.due("no cases: write(0, 0)", Check.court("b0;h1;").write(0, 0), Check.UNKNOWN);
    }

    /** "THE BOOK (15 at most)"; "FULL (15)" */
    private static void bookOf15() {
        BathingCourt x = Check.court("b0;c1 1 0 0;c1 1 0 0;");
        for (int i = 1; i <= 14; i++) {
            Check.due("write(0, 0), " + i, x.write(0, 0), i);
        }
        Check.due("write(1, 4), 15", x.write(1, 4), 15);
        Check.due("judge(), the fifteenth counts", x.judge(), 14);
        for (int is = 0; is <= 4; is++) {
            Check.due("write(0, " + is + "), a sixteenth", x.write(0, is), Check.FULL);
        }
        Check.due("write(0, 5), a sixteenth", x.write(0, 5), Check.OUTSIDE);
        Check.due("write(0, -1), a sixteenth", x.write(0, -1), Check.OUTSIDE);
        Check.due("write(2, 0), a sixteenth", x.write(2, 0), Check.UNKNOWN);
        Check.due("write(2, 5), a sixteenth", x.write(2, 5), Check.UNKNOWN);
        Check.due("told(11)", x.told(11), 15);
        Check.due("judge()", x.judge(), 14);
        Check.due("tear()", x.tear(), 15);
        Check.due("write(0, 0), the first again", x.write(0, 0), 1);
    }

    /** "No SHOUTS, THE BOOK is empty: how much both had." */
    private static void tearBoth() {
        Check.due("no beach: tear()", new BathingCourt().tear(), 0);
        BathingCourt x = Check.court("b0;c1 1 0 0;");
        Check.due("tear() of nothing", x.tear(), 0);
        x.shout(4, true);
        Check.due("tear() of a shout", x.tear(), 1);
        x.write(0, 3);
        Check.due("tear() of an entry", x.tear(), 1);
        for (int i = 0; i < 7; i++) {
            x.shout(4, true);
        }
        for (int i = 0; i < 16; i++) {
            x.write(0, 3);
        }
        x.hour(1);
        String day = Check.day(x);
        Check.due("tear() of all", x.tear(), 21);
        Check.due("told(10)", x.told(10), 0);
        Check.due("told(11)", x.told(11), 0);
        Check.due("bears()", x.bears(), 2047);
        Check.due("judge()", x.judge(), Check.NONE);
        Check.due("the day", Check.day(x), day);
        Check.due("told(12)", x.told(12), 1);
        Check.due("tear() again", x.tear(), 0);
    }

    /** "WRONG: the first that is otherwise now; NONE" */
    private static void judgeTheFirst() {
        Check.due("no beach: judge()", new BathingCourt().judge(), Check.NONE);
        for (int wrong = 0; wrong < 15; wrong++) {
            BathingCourt x = Check.court("b0;c1 1 0 0;c1 1 0 0;");
            for (int i = 0; i < 15; i++) {
                Check.due("judge() of " + i + " entries", x.judge(), i > wrong ? wrong : Check.NONE);
                // Behind the wrong one each other one is wrong, too: the first is told.
                x.write(i % 2, i >= wrong && (i - wrong) % 2 == 0 ? 4 : 0);
            }
            Check.due("judge(), wrong at " + wrong, x.judge(), wrong);
        }
    }

    /** "tells what CASES are (0 .. 4)" */
    private static void judgeEveryState() {
        for (int state = 0; state <= 4; state++) {
            for (int is = 0; is <= 4; is++) {
                BathingCourt x = inState(state);
                x.write(1, is);
                Check.due("judge(), written " + is + ", it is " + state, x.judge(), is == state ? Check.NONE : 0);
            }
        }
    }

    /** Case 1 in that state; case 0 waits. */
    private static BathingCourt inState(int state) {
        BathingCourt x = Check.court("b0;h9;c9 1 0 0;c2 1 0 0;");
        if (state == 3) {
            x.settle(1);
        } else if (state > 0) {
            x.bring(1, 0);
            x.drawTo(0, state == 2 ? 1 : state == 4 ? 2 : 3);
            if (state != 1) {
                x.hour(1);
            }
        }
        return x;
    }

    /** "now": an entry is not wrong for ever, nor right. */
    private static void judgeNow() {
        BathingCourt x = Check.court("b0;h1;c9 1 0 0;");
        x.write(0, 0);
        x.write(0, 1);
        Check.due("judge(), waiting", x.judge(), 1);
        x.bring(0, 0);
        Check.due("judge(), in a hut", x.judge(), 0);
        x.undo();
        Check.due("judge(), undone", x.judge(), 1);
        x.keep(0);
        x.settle(0);
        Check.due("judge(), settled", x.judge(), 0);
        x.goBack(0);
        Check.due("judge(), gone back", x.judge(), 1);
    }
}
