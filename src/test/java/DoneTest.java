/** Promises 6 to 14: depth, huts, cases, and what is done. */
final class DoneTest {
    private static final String TEXT = "b2,4,6,5,3;h3;h9;c2 2 1 500;c4 1 0 90;c1 3 2 0;c9 1 9 1;";

    public static void main(String[] args) {
        depth();
        hut();
        legal();
        hoursCounted();
        casesInAnHour();
        bring();
        drawTo();
        settle();
        drift();
        driftWithoutHutsOrCases();
        undo();
        undoKeepsTwenty();
        Check.finish();
    }

    private static void depth() {
        BathingCourt x = Check.court("b0,9,5;");
        Check.due("depth(0, 0)", x.depth(0, 0), 1);
        Check.due("depth(9, 0)", x.depth(9, 0), 10);
        Check.due("depth(9, 1)", x.depth(9, 1), 1);
        Check.due("depth(8, 1)", x.depth(8, 1), 0);
        Check.due("depth(0, 1)", x.depth(0, 1), 0);
        Check.due("depth(4, 2)", x.depth(4, 2), 0);
        Check.due("depth(5, 2)", x.depth(5, 2), 1);
        Check.due("depth(9, 99)", x.depth(9, 99), 10);
        x.hour(1);
        Check.due("depth(9, 0) an hour on", x.depth(9, 0), 1);
        Check.due("depth(9, 98) an hour on", x.depth(9, 98), 10);
        Check.due("depth(-1, 0)", x.depth(-1, 0), Check.OUTSIDE);
        Check.due("depth(10, 0)", x.depth(10, 0), Check.OUTSIDE);
        Check.due("depth(0, -1)", x.depth(0, -1), Check.OUTSIDE);
        Check.due("depth(0, 100)", x.depth(0, 100), Check.OUTSIDE);
        Check.due("no beach: depth(10, 0)", new BathingCourt().depth(10, 0), Check.OUTSIDE);
        Check.due("no beach: depth(9, 99)", new BathingCourt().depth(9, 99), Check.NOT);
    }

    private static void hut() {
        BathingCourt x = Check.court(TEXT);
        int[] first = {3, 0, Check.NONE, 0};
        for (int what = 0; what <= 3; what++) {
            Check.due("hut(0, " + what + ")", x.hut(0, what), first[what]);
        }
        x.bring(2, 1);
        x.drawTo(1, 7);
        int[] then = {9, 7, 2, 1};
        for (int what = 0; what <= 3; what++) {
            Check.due("hut(1, " + what + ")", x.hut(1, what), then[what]);
        }
        x.hour(1);
        Check.due("hut(1, 3) an hour on", x.hut(1, 3), 0);
        Check.due("hut(0, -1)", x.hut(0, -1), Check.OUTSIDE);
        Check.due("hut(0, 4)", x.hut(0, 4), Check.OUTSIDE);
        Check.due("hut(2, 4)", x.hut(2, 4), Check.UNKNOWN);
        Check.due("hut(-1, 0)", x.hut(-1, 0), Check.UNKNOWN);
    }

    private static void legal() {
        BathingCourt x = Check.court(TEXT);
        int[] want = {2, 2, 1, 500, 0, 0};
        for (int what = 0; what <= 5; what++) {
            Check.due("legal(0, " + what + ")", x.legal(0, what), want[what]);
        }
        x.bring(0, 0);
        Check.due("legal(0, 4) in a hut", x.legal(0, 4), 1);
        x.drawTo(0, 3);
        x.hour(1);
        Check.due("legal(0, 5) an hour on", x.legal(0, 5), 1);
        Check.due("legal(0, 4) an hour on", x.legal(0, 4), 1);
        x.settle(0);
        Check.due("legal(0, 4) settled", x.legal(0, 4), 3);
        Check.due("legal(0, 5) settled", x.legal(0, 5), 1);
        Check.due("legal(0, -1)", x.legal(0, -1), Check.OUTSIDE);
        Check.due("legal(0, 6)", x.legal(0, 6), Check.OUTSIDE);
        Check.due("legal(4, 6)", x.legal(4, 6), Check.UNKNOWN);
        Check.due("legal(-1, 0)", x.legal(-1, 0), Check.UNKNOWN);
    }

    private static void hoursCounted() {
        BathingCourt none = new BathingCourt();
        Check.due("no beach: hour(0)", none.hour(0), Check.OUTSIDE);
        Check.due("no beach: hour(1)", none.hour(1), Check.NOT);
        BathingCourt x = Check.court("b1;");
        Check.due("hour(0)", x.hour(0), Check.OUTSIDE);
        Check.due("hour(61)", x.hour(61), Check.OUTSIDE);
        Check.due("hour(1)", x.hour(1), 1);
        for (int i = 1; i <= 149; i++) {
            Check.due("hour(60)", x.hour(60), 1 + 60 * i);
        }
        Check.due("hour(59)", x.hour(59), 9000);
        Check.due("hour(60) from 9000", x.hour(60), 9060);
        Check.due("hour(1) from 9060", x.hour(1), Check.FULL);
        Check.due("drift(1) from 9060", x.drift(1), Check.FULL);
        Check.due("hour(61) from 9060", x.hour(61), Check.OUTSIDE);
        Check.due("undo()", x.undo(), 19);
        Check.due("drift(1) from 9000", x.drift(1), 0);
        Check.due("told(4)", x.told(4), 9001);
        Check.due("hour(1) from 9001", x.hour(1), Check.FULL);
        Check.due("drift(0) from 9001", x.drift(0), Check.OUTSIDE);
    }

    private static void casesInAnHour() {
        BathingCourt x = Check.court("b0;h9;h9;h9;c3 2 2 7;c3 1 2 8;c3 1 2 9;");
        x.bring(0, 0);
        x.bring(1, 1);
        x.bring(2, 2);
        x.hour(1);
        Check.due("too shallow: told(6)", x.told(6), 0);
        Check.due("too shallow: legal(0, 5)", x.legal(0, 5), 0);
        x.drawTo(0, 2);
        x.drawTo(1, 4);
        x.drawTo(2, 5);
        x.hour(1);
        Check.due("just deep enough: legal(0, 5)", x.legal(0, 5), 1);
        Check.due("just deep enough: hut(0, 2)", x.hut(0, 2), 0);
        Check.due("just not too deep: legal(1, 4)", x.legal(1, 4), 2);
        Check.due("just not too deep: hut(1, 2)", x.hut(1, 2), Check.NONE);
        Check.due("too deep: legal(2, 4)", x.legal(2, 4), 4);
        Check.due("too deep: legal(2, 5)", x.legal(2, 5), 0);
        Check.due("too deep: hut(2, 2)", x.hut(2, 2), Check.NONE);
        Check.due("too deep: hut(2, 1)", x.hut(2, 1), 5);
        x.drawTo(0, 1);
        x.hour(1);
        Check.due("an hour between: legal(0, 5)", x.legal(0, 5), 1);
        x.drawTo(0, 3);
        x.hour(3);
        Check.due("with its hours: legal(0, 4)", x.legal(0, 4), 2);
        Check.due("with its hours: legal(0, 5)", x.legal(0, 5), 2);
        Check.due("told(9)", x.told(9), 15);
        BathingCourt turn = Check.court("b9,0;h9;c1 4 1 3;");
        turn.bring(0, 0);
        turn.drawTo(0, 9);
        turn.hour(2);
        Check.due("told, then broken off: legal(0, 4)", turn.legal(0, 4), 4);
        Check.due("told, then broken off: legal(0, 5)", turn.legal(0, 5), 1);
    }

    private static void bring() {
        BathingCourt x = Check.court(TEXT);
        Check.due("bring(0, 1)", x.bring(0, 1), 14);
        Check.due("it does not wait", x.bring(0, 0), Check.NOT);
        Check.due("the hut is not empty", x.bring(1, 1), Check.NOT);
        x.drawTo(0, 1);
        Check.due("not at the shore", x.bring(1, 0), Check.NOT);
        x.hour(1);
        x.drawTo(0, 0);
        Check.due("at the shore again", x.bring(3, 0), 6);
        Check.due("bring(4, 0)", x.bring(4, 0), Check.UNKNOWN);
        Check.due("bring(-1, 0)", x.bring(-1, 0), Check.UNKNOWN);
        Check.due("bring(0, 2)", x.bring(0, 2), Check.UNKNOWN);
        Check.due("bring(0, -1)", x.bring(0, -1), Check.UNKNOWN);
    }

    private static void drawTo() {
        BathingCourt x = Check.court(TEXT);
        Check.due("too far", x.drawTo(0, 4), Check.NOT);
        Check.due("it is there", x.drawTo(0, 0), Check.NOT);
        Check.due("drawTo(0, 3)", x.drawTo(0, 3), 2);
        Check.due("twice", x.drawTo(0, 2), Check.NOT);
        Check.due("drawTo(1, 9)", x.drawTo(1, 9), 8);
        x.hour(1);
        Check.due("too far back", x.drawTo(0, 7), Check.NOT);
        Check.due("drawTo(0, 6)", x.drawTo(0, 6), 3);
        Check.due("drawTo(1, 0)", x.drawTo(1, 0), 0);
        Check.due("drawTo(0, -1)", x.drawTo(0, -1), Check.OUTSIDE);
        Check.due("drawTo(0, 10)", x.drawTo(0, 10), Check.OUTSIDE);
        Check.due("drawTo(0, least)", x.drawTo(0, Integer.MIN_VALUE), Check.OUTSIDE);
        Check.due("drawTo(2, 10)", x.drawTo(2, 10), Check.UNKNOWN);
        Check.due("drawTo(-1, 0)", x.drawTo(-1, 0), Check.UNKNOWN);
    }

    private static void settle() {
        BathingCourt x = Check.court(TEXT);
        Check.due("settle(0)", x.settle(0), 500);
        Check.due("settle(0) again", x.settle(0), Check.NOT);
        x.bring(1, 1);
        x.drawTo(1, 5);
        Check.due("settle(1) in a hut", x.settle(1), 90);
        Check.due("hut(1, 2)", x.hut(1, 2), Check.NONE);
        Check.due("hut(1, 1)", x.hut(1, 1), 5);
        Check.due("told(7)", x.told(7), 3);
        Check.due("told(9)", x.told(9), 0);
        x.bring(3, 0);
        Check.due("settle(4)", x.settle(4), Check.UNKNOWN);
        Check.due("settle(-1)", x.settle(-1), Check.UNKNOWN);
        BathingCourt judged = Check.court("b0;h1;c1 1 0 5;");
        judged.bring(0, 0);
        judged.hour(1);
        Check.due("settle(0) judged", judged.settle(0), Check.NOT);
        BathingCourt broken = Check.court("b0;h1;c1 1 0 5;");
        broken.bring(0, 0);
        broken.drawTo(0, 1);
        broken.hour(1);
        Check.due("settle(0) broken off", broken.settle(0), Check.NOT);
    }

    private static void drift() {
        BathingCourt none = new BathingCourt();
        Check.due("no beach: drift(61)", none.drift(61), Check.OUTSIDE);
        Check.due("no beach: drift(1)", none.drift(1), Check.NOT);
        BathingCourt x = Check.court("b0;h9;h9;c1 4 9 5;c1 1 9 7;c1 2 9 9;");
        // The draws by hand: what the seed becomes, and what the court would do by it.
        x.seed(20);
        long seed = 20;
        BathingCourt byHand = Check.court("b0;h9;h9;c1 4 9 5;c1 1 9 7;c1 2 9 9;");
        for (int i = 0; i < 12; i++) {
            seed = next(seed);
            int h = (int) (seed / 65536 % 2);
            seed = next(seed);
            byHand.drawTo(h, (int) (seed / 65536 % 10));
            seed = next(seed);
            byHand.bring((int) (seed / 65536 % 3), h);
            byHand.hour(1);
        }
        Check.due("drift(12)", x.drift(12), byHand.told(6));
        Check.due("told(12)", x.told(12), 1);
        Check.due("the seed", x.seed(0), seed);
        for (int h = 0; h < 2; h++) {
            for (int what = 0; what <= 3; what++) {
                Check.due("hut(" + h + ", " + what + ")", x.hut(h, what), byHand.hut(h, what));
            }
        }
        for (int c = 0; c < 3; c++) {
            for (int what = 4; what <= 5; what++) {
                Check.due("legal(" + c + ", " + what + ")", x.legal(c, what), byHand.legal(c, what));
            }
        }
        Check.due("drift(0)", x.drift(0), Check.OUTSIDE);
        Check.due("drift(61)", x.drift(61), Check.OUTSIDE);
    }

    private static void driftWithoutHutsOrCases() {
        BathingCourt noHuts = Check.court("b1;c1 1 0 0;");
        noHuts.seed(5);
        Check.due("no huts: drift(3)", noHuts.drift(3), 0);
        Check.due("no huts: the seed", noHuts.seed(0), 5);
        Check.due("no huts: told(4)", noHuts.told(4), 3);
        BathingCourt noCases = Check.court("b1;h9;");
        noCases.seed(5);
        Check.due("no cases: drift(1)", noCases.drift(1), 0);
        Check.due("no cases: the seed", noCases.seed(0), next(next(5)));
        Check.due("no cases: hut(0, 1)", noCases.hut(0, 1), next(next(5)) / 65536 % 10);
    }

    private static long next(long seed) {
        return (seed * 1103515245L + 12345L) % (1L << 31);
    }

    private static void undo() {
        BathingCourt x = Check.court(TEXT);
        Check.due("undo() of nothing", x.undo(), Check.NOT);
        String[] before = new String[5];
        before[0] = Check.day(x);
        x.bring(0, 0);
        before[1] = Check.day(x);
        x.drawTo(0, 3);
        before[2] = Check.day(x);
        x.hour(2);
        before[3] = Check.day(x);
        x.settle(1);
        before[4] = Check.day(x);
        x.drift(5);
        Check.due("a refused call", x.settle(1), Check.NOT);
        int drawn = x.seed(0);
        Check.due("undo() of drift", x.undo(), 4);
        Check.due("the seed stays", x.seed(0), 0);
        Check.due("the seed was drawn", drawn != 0 ? 1 : 0, 1);
        for (int i = 4; i >= 0; i--) {
            Check.due("the day behind undo()", Check.day(x), before[i]);
            Check.due("undo()", x.undo(), i == 0 ? Check.NOT : i - 1);
        }
    }

    private static void undoKeepsTwenty() {
        BathingCourt x = Check.court(TEXT);
        for (int i = 1; i <= 23; i++) {
            x.hour(1);
            Check.due("told(12)", x.told(12), Math.min(i, 20));
        }
        x.shout(4, false);
        x.write(0, 0);
        for (int i = 19; i >= 0; i--) {
            Check.due("undo()", x.undo(), i);
            Check.due("told(4)", x.told(4), 3 + i);
        }
        Check.due("undo() of what is lost", x.undo(), Check.NOT);
        Check.due("told(4)", x.told(4), 3);
        Check.due("shouts stay", x.told(10), 1);
        Check.due("the book stays", x.told(11), 1);
    }
}
