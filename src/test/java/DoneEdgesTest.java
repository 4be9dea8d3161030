/** Section 2 and promises 6 to 14, edge by edge: each test is headed by the document's words that it is for. */
final class DoneEdgesTest {
    private static final int LEAST = Integer.MIN_VALUE, GREATEST = Integer.MAX_VALUE;
    private static final String CASE = "c1 1 0 0;";

    public static void main(String[] args) {
        depthOfEveryCell();
        depthBounds();
        depthFarOn();
        hutBounds();
        hutAtFirst();
        legalBounds();
        legalStates();
        hourBounds();
        hoursAbove9000();
        hourWithoutHutsOrCases();
        hourAtEveryDepth();
        hourTakesTheDepthOfThen();
        hoursTold();
        hoursTooShallow();
        hutByHut();
        drawnAgainEachHour();
        bringOnlyWaitingOnes();
        bringOnlyIntoEmptyHuts();
        bringOnlyAtTheShore();
        bringAnswersASet();
        drawToEveryCell();
        drawToOnceAnHour();
        drawToBounds();
        settleWaitingOrInAHut();
        settleNeither();
        Check.finish();
    }

    /** "DEPTH of CELL x in HOUR k: x and 1, less where the water begins then; 0 at least" */
    private static void depthOfEveryCell() {
        for (int t = 0; t <= 9; t++) {
            BathingCourt x = Check.court("b" + t + ";");
            for (int cell = 0; cell <= 9; cell++) {
                int want = cell < t ? 0 : cell - t + 1;
                Check.due("depth(" + cell + ", 0) of tide " + t, x.depth(cell, 0), want);
                Check.due("depth(" + cell + ", 99) of tide " + t, x.depth(cell, 99), want);
            }
        }
    }

    /** "DEPTH of a CELL (0 .. 9) behind n HOURS (0 .. 99). OUTSIDE, NOT: no BEACH." */
    private static void depthBounds() {
        BathingCourt x = Check.court("b1;");
        BathingCourt none = new BathingCourt();
        for (int wrong : new int[] {LEAST, -1, 10, 11, GREATEST}) {
            Check.due("depth(" + wrong + ", 0)", x.depth(wrong, 0), Check.OUTSIDE);
            Check.due("no beach: depth(" + wrong + ", 0)", none.depth(wrong, 0), Check.OUTSIDE);
        }
        for (int wrong : new int[] {LEAST, -1, 100, 101, GREATEST}) {
            Check.due("depth(0, " + wrong + ")", x.depth(0, wrong), Check.OUTSIDE);
            Check.due("no beach: depth(0, " + wrong + ")", none.depth(0, wrong), Check.OUTSIDE);
        }
        Check.due("depth(0, 0)", x.depth(0, 0), 0);
        Check.due("depth(9, 99)", x.depth(9, 99), 9);
        Check.due("no beach: depth(0, 0)", none.depth(0, 0), Check.NOT);
        Check.due("no beach: depth(9, 99)", none.depth(9, 99), Check.NOT);
    }

    /** "HOURS are counted from 0", and go to 9060. */
    private static void depthFarOn() {
        BathingCourt x = Check.court("b0,1,2,3,4,5,6;");
        for (int i = 0; i < 151; i++) {
            x.hour(60);
        }
        Check.due("told(4)", x.told(4), 9060);
        for (int n = 0; n <= 99; n++) {
            Check.due("depth(9, " + n + ") from 9060", x.depth(9, n), 10 - (9060 + n) % 7);
        }
    }

    /** "Of a HUT: what = 0 P, 1 the CELL, 2 the CASE in it (NONE), 3 .. UNKNOWN, OUTSIDE." */
    private static void hutBounds() {
        for (int huts = 0; huts <= 4; huts++) {
            BathingCourt x = Check.court("b1;" + "h3;".repeat(huts));
            for (int h : new int[] {LEAST, -2, -1, huts, huts + 1, 4, 5, GREATEST}) {
                Check.due("hut(" + h + ", 0) of " + huts, x.hut(h, 0), Check.UNKNOWN);
                Check.due("hut(" + h + ", 4) of " + huts, x.hut(h, 4), Check.UNKNOWN);
            }
            for (int h = 0; h < huts; h++) {
                Check.due("hut(" + h + ", 0) of " + huts, x.hut(h, 0), 3);
                Check.due("hut(" + h + ", 3) of " + huts, x.hut(h, 3), 0);
                for (int what : new int[] {LEAST, -1, 4, 5, GREATEST}) {
                    Check.due("hut(" + h + ", " + what + ") of " + huts, x.hut(h, what), Check.OUTSIDE);
                }
            }
        }
    }

    /** "A HUT is at a CELL (0 at first), empty, or a CASE is in it." */
    private static void hutAtFirst() {
        BathingCourt x = Check.court("b1;h1;h2;h8;h9;" + CASE);
        int[] paces = {1, 2, 8, 9};
        for (int h = 0; h < 4; h++) {
            int[] want = {paces[h], 0, Check.NONE, 0};
            for (int what = 0; what < 4; what++) {
                Check.due("hut(" + h + ", " + what + ")", x.hut(h, what), want[what]);
            }
        }
        x.bring(0, 3);
        x.drawTo(3, 9);
        int[] want = {9, 9, 0, 1};
        for (int what = 0; what < 4; what++) {
            Check.due("hut(3, " + what + ") drawn, with a case", x.hut(3, what), want[what]);
        }
    }

    /** "Of a CASE: what = 0 D, 1 L, 2 N, 3 W, 4 what it is (0 .. 4), 5 HOURS TOLD. UNKNOWN, OUTSIDE." */
    private static void legalBounds() {
        for (int cases = 0; cases <= 5; cases++) {
            BathingCourt x = Check.court("b1;" + "c9 4 9 999;".repeat(cases));
            for (int c : new int[] {LEAST, -2, -1, cases, cases + 1, 5, 6, GREATEST}) {
                Check.due("legal(" + c + ", 0) of " + cases, x.legal(c, 0), Check.UNKNOWN);
                Check.due("legal(" + c + ", 6) of " + cases, x.legal(c, 6), Check.UNKNOWN);
            }
            int[] want = {9, 4, 9, 999, 0, 0};
            for (int c = 0; c < cases; c++) {
                for (int what = 0; what <= 5; what++) {
                    Check.due("legal(" + c + ", " + what + ") of " + cases, x.legal(c, what), want[what]);
                }
                for (int what : new int[] {LEAST, -1, 6, 7, GREATEST}) {
                    Check.due("legal(" + c + ", " + what + ") of " + cases, x.legal(c, what), Check.OUTSIDE);
                }
            }
        }
    }

    /** "A CASE is 0 WAITING (at first), 1 in a HUT, 2 JUDGED, 3 SETTLED, 4 it BROKE OFF." */
    private static void legalStates() {
        BathingCourt x = allStates();
        for (int c = 0; c < 5; c++) {
            Check.due("legal(" + c + ", 4)", x.legal(c, 4), c);
        }
        Check.due("told(5)", x.told(5), 1);
        Check.due("told(6)", x.told(6), 4);
        Check.due("told(7)", x.told(7), 8);
        Check.due("told(8)", x.told(8), 16);
        Check.due("told(9), the judged one alone", x.told(9), 30);
    }

    /** Case c is in state c; hut 0 is empty at the shore, hut 1 has case 1 there, hut 2 is empty at cell 1. */
    private static BathingCourt allStates() {
        BathingCourt x = Check.court("b0;h9;h9;h9;c9 1 0 10;c9 1 0 20;c1 1 0 30;c9 1 0 40;c1 1 0 50;");
        x.bring(1, 1);
        x.bring(2, 0);
        x.bring(4, 2);
        x.drawTo(2, 1);
        x.settle(3);
        x.hour(1);
        return x;
    }

    /** "n HOURS (1 .. 60): HOURS. OUTSIDE, NOT: no BEACH" */
    private static void hourBounds() {
        BathingCourt x = Check.court("b1;");
        for (int n : new int[] {LEAST, -1, 0, 61, 62, GREATEST}) {
            Check.due("hour(" + n + ")", x.hour(n), Check.OUTSIDE);
            Check.due("drift(" + n + ")", x.drift(n), Check.OUTSIDE);
            Check.due("no beach: hour(" + n + ")", new BathingCourt().hour(n), Check.OUTSIDE);
            Check.due("no beach: drift(" + n + ")", new BathingCourt().drift(n), Check.OUTSIDE);
        }
        Check.due("told(4)", x.told(4), 0);
        Check.due("hour(1)", x.hour(1), 1);
        Check.due("hour(60)", x.hour(60), 61);
        Check.due("drift(1)", x.drift(1), 0);
        Check.due("told(4)", x.told(4), 62);
        Check.due("drift(60)", x.drift(60), 0);
        Check.due("told(4)", x.told(4), 122);
        for (int n : new int[] {1, 60}) {
            Check.due("no beach: hour(" + n + ")", new BathingCourt().hour(n), Check.NOT);
            Check.due("no beach: drift(" + n + ")", new BathingCourt().drift(n), Check.NOT);
        }
    }

    /** "FULL: HOURS are above 9000 as it is called (n may pass that)" */
    private static void hoursAbove9000() {
        BathingCourt x = Check.court("b1;");
        for (int i = 1; i <= 149; i++) {
            x.hour(60);
        }
        Check.due("hour(59), to 8999", x.hour(59), 8999);
        Check.due("hour(60) from 8999", x.hour(60), 9059);
        x.undo();
        Check.due("hour(1) from 8999", x.hour(1), 9000);
        Check.due("hour(60) from 9000", x.hour(60), 9060);
        full(x, "9060");
        x.undo();
        Check.due("drift(60) from 9000", x.drift(60), 0);
        Check.due("told(4)", x.told(4), 9060);
        full(x, "9060 by drift");
        x.undo();
        Check.due("hour(1) from 9000", x.hour(1), 9001);
        full(x, "9001");
        x.undo();
        Check.due("drift(1) from 9000", x.drift(1), 0);
        Check.due("told(4)", x.told(4), 9001);
        full(x, "9001 by drift");
    }

    private static void full(BathingCourt x, String from) {
        int undone = x.told(12);
        int hours = x.told(4);
        for (int n : new int[] {1, 60}) {
            Check.due("hour(" + n + ") from " + from, x.hour(n), Check.FULL);
            Check.due("drift(" + n + ") from " + from, x.drift(n), Check.FULL);
        }
        for (int n : new int[] {0, 61}) {
            Check.due("hour(" + n + ") from " + from, x.hour(n), Check.OUTSIDE);
            Check.due("drift(" + n + ") from " + from, x.drift(n), Check.OUTSIDE);
        }
        Check.due("told(12) from " + from, x.told(12), undone);
        Check.due("told(4) from " + from, x.told(4), hours);
    }

    /** A beach of a tide alone is one, too. */
    private static void hourWithoutHutsOrCases() {
        Check.due("tide alone: hour(60)", Check.court("b9;").hour(60), 60);
        Check.due("huts alone: hour(60)", Check.court("b9;h1;h1;h1;h1;").hour(60), 60);
        BathingCourt cases = Check.court("b0;" + CASE.repeat(5));
        Check.due("cases alone: hour(60)", cases.hour(60), 60);
        Check.due("cases alone: told(5)", cases.told(5), 31);
    }

    /** "if DEPTH there, then, is more than D and N together: it BROKE OFF; else if it is D or more: TOLD an HOUR more" */
    private static void hourAtEveryDepth() {
        for (int t = 0; t <= 9; t += 3) {
            for (int cell = 0; cell <= 9; cell++) {
                int depth = Math.max(0, cell + 1 - t);
                for (int d = 1; d <= 9; d++) {
                    for (int n = 0; n <= 9; n++) {
                        BathingCourt x = Check.court("b" + t + ";h9;c" + d + " 2 " + n + " 5;");
                        x.bring(0, 0);
                        x.drawTo(0, cell);
                        x.hour(1);
                        String where = " at depth " + depth + ", D " + d + ", N " + n;
                        boolean tooDeep = depth > d + n;
                        Check.due("legal(0, 4)" + where, x.legal(0, 4), tooDeep ? 4 : 1);
                        Check.due("legal(0, 5)" + where, x.legal(0, 5), depth >= d && !tooDeep ? 1 : 0);
                        Check.due("hut(0, 2)" + where, x.hut(0, 2), tooDeep ? Check.NONE : 0);
                        Check.due("hut(0, 1)" + where, x.hut(0, 1), cell);
                    }
                }
            }
        }
    }

    /** "DEPTH there, then": in the hour that passes, not in the one that comes. */
    private static void hourTakesTheDepthOfThen() {
        BathingCourt x = Check.court("b9,0,8;h9;c1 4 0 5;");
        x.bring(0, 0);
        x.drawTo(0, 9);
        x.hour(1);
        Check.due("legal(0, 5), depth 1 in hour 0", x.legal(0, 5), 1);
        Check.due("legal(0, 4), depth 10 in hour 1 is to come", x.legal(0, 4), 1);
        x.hour(1);
        Check.due("legal(0, 4), depth 10 in hour 1", x.legal(0, 4), 4);
        BathingCourt y = Check.court("b0,9,9,9;h9;c1 1 0 5;");
        y.hour(3);
        y.bring(0, 0);
        Check.due("hour(1), the tide's last", y.hour(1), 4);
        Check.due("legal(0, 4), the tide's last", y.legal(0, 4), 1);
        y.hour(1);
        Check.due("legal(0, 4), the tide's first again", y.legal(0, 4), 2);
    }

    /** "with L HOURS it is JUDGED. (The HUT is empty then.)" */
    private static void hoursTold() {
        for (int l = 1; l <= 4; l++) {
            BathingCourt x = Check.court("b0;h1;c1 " + l + " 0 5;");
            x.bring(0, 0);
            for (int n = 1; n < l; n++) {
                x.hour(1);
                Check.due("legal(0, 4), " + n + " of " + l, x.legal(0, 4), 1);
                Check.due("legal(0, 5), " + n + " of " + l, x.legal(0, 5), n);
                Check.due("hut(0, 2), " + n + " of " + l, x.hut(0, 2), 0);
                Check.due("told(6), " + n + " of " + l, x.told(6), 0);
                Check.due("told(9), " + n + " of " + l, x.told(9), 0);
            }
            x.hour(1);
            for (int later = 0; later < 2; later++) {
                Check.due("legal(0, 4), all " + l, x.legal(0, 4), 2);
                Check.due("legal(0, 5), all " + l, x.legal(0, 5), l);
                Check.due("hut(0, 2), all " + l, x.hut(0, 2), Check.NONE);
                Check.due("told(6), all " + l, x.told(6), 1);
                Check.due("told(9), all " + l, x.told(9), 5);
                x.hour(60);
            }
            BathingCourt atOnce = Check.court("b0;h1;c1 " + l + " 0 5;");
            atOnce.bring(0, 0);
            atOnce.hour(60);
            Check.due("legal(0, 5), 60 hours at once", atOnce.legal(0, 5), l);
        }
        // What is judged in an hour that is not too deep does not break off in a later one.
        BathingCourt x = Check.court("b9,0;h9;c1 1 0 5;");
        x.bring(0, 0);
        x.drawTo(0, 9);
        x.hour(2);
        Check.due("judged ahead of the flood", x.legal(0, 4), 2);
    }

    /** Too shallow: neither is it told, nor does it break off; what was told stays told. */
    private static void hoursTooShallow() {
        BathingCourt x = Check.court("b0,9;h1;c1 3 0 5;");
        x.bring(0, 0);
        int[] told = {1, 1, 2, 2, 3, 3};
        for (int n = 0; n < 6; n++) {
            x.hour(1);
            Check.due("legal(0, 5) in hour " + n, x.legal(0, 5), told[n]);
            Check.due("legal(0, 4) in hour " + n, x.legal(0, 4), n < 4 ? 1 : 2);
        }
        BathingCourt never = Check.court("b9;h1;c1 1 9 5;");
        never.bring(0, 0);
        never.hour(60);
        Check.due("legal(0, 4) where it is dry", never.legal(0, 4), 1);
        Check.due("hut(0, 2) where it is dry", never.hut(0, 2), 0);
    }

    /** "AN HOUR: HUT by HUT, with a CASE in it" */
    private static void hutByHut() {
        BathingCourt x = Check.court("b0;h9;h9;h9;h9;c3 1 0 1;c3 1 0 2;c3 2 0 4;c3 1 0 8;");
        int[] cells = {3, 2, 2, 1};
        for (int h = 0; h < 4; h++) {
            x.bring(3 - h, h);
            x.drawTo(h, cells[h]);
        }
        x.hour(1);
        int[] states = {1, 1, 2, 4};
        int[] told = {0, 1, 1, 0};
        // Case 1 (of one hour) is in hut 2, case 2 (of two) in hut 1, so the two are looked at by their own hours.
        Check.due("legal(3, 4), too deep", x.legal(3, 4), states[3]);
        Check.due("legal(2, 4), one of two hours", x.legal(2, 4), states[1]);
        Check.due("legal(1, 4), one of one hour", x.legal(1, 4), states[2]);
        Check.due("legal(0, 4), too shallow", x.legal(0, 4), states[0]);
        for (int c = 0; c < 4; c++) {
            Check.due("legal(" + c + ", 5)", x.legal(c, 5), told[c]);
        }
        int[] inside = {Check.NONE, 2, Check.NONE, 0};
        for (int h = 0; h < 4; h++) {
            Check.due("hut(" + h + ", 2)", x.hut(h, 2), inside[h]);
        }
    }

    /** "Each HUT may be DRAWN again." */
    private static void drawnAgainEachHour() {
        for (int way = 0; way < 3; way++) {
            BathingCourt x = Check.court("b0;h9;h9;h9;h9;c9 1 0 0;c9 1 0 0;");
            x.bring(0, 1);
            x.bring(1, 3);
            for (int h = 0; h < 4; h++) {
                x.drawTo(h, 3);
                Check.due("hut(" + h + ", 3)", x.hut(h, 3), 1);
            }
            if (way == 2) {
                x.drift(1);
            } else {
                x.hour(way == 0 ? 1 : 60);
            }
            for (int h = 0; h < 4; h++) {
                Check.due("hut(" + h + ", 3) an hour on", x.hut(h, 3), 0);
                Check.due("drawTo(" + h + ", 9) an hour on", x.drawTo(h, 9), 10);
            }
        }
    }

    /** "BROUGHT: a WAITING CASE"; "NOT: it does not WAIT" */
    private static void bringOnlyWaitingOnes() {
        for (int c = 0; c < 5; c++) {
            Check.due("bring(" + c + ", 0) in state " + c, allStates().bring(c, 0), c == 0 ? 0 : Check.NOT);
        }
        BathingCourt x = Check.court("b0;h9;" + CASE.repeat(5));
        for (int c : new int[] {LEAST, -1, 5, GREATEST}) {
            Check.due("bring(" + c + ", 0)", x.bring(c, 0), Check.UNKNOWN);
        }
        for (int h : new int[] {LEAST, -1, 1, 4, GREATEST}) {
            Check.due("bring(0, " + h + ")", x.bring(0, h), Check.UNKNOWN);
        }
        Check.due("no beach: bring(0, 0)", new BathingCourt().bring(0, 0), Check.UNKNOWN);
        Check.due("no huts: bring(0, 0)", Check.court("b0;" + CASE).bring(0, 0), Check.UNKNOWN);
        Check.due("no cases: bring(0, 0)", Check.court("b0;h1;").bring(0, 0), Check.UNKNOWN);
    }

    /** "into an empty HUT"; "NOT: .. the HUT is not empty" */
    private static void bringOnlyIntoEmptyHuts() {
        Check.due("bring(0, 1), where case 1 is", allStates().bring(0, 1), Check.NOT);
        BathingCourt judged = Check.court("b0;h1;" + CASE.repeat(2));
        judged.bring(0, 0);
        Check.due("bring(1, 0), where case 0 is", judged.bring(1, 0), Check.NOT);
        judged.hour(1);
        Check.due("bring(1, 0), where case 0 was judged", judged.bring(1, 0), 0);
        BathingCourt settled = Check.court("b0;h1;" + CASE.repeat(2));
        settled.bring(0, 0);
        settled.settle(0);
        Check.due("bring(1, 0), where case 0 was settled", settled.bring(1, 0), 0);
        BathingCourt broken = Check.court("b0;h9;" + CASE.repeat(2));
        broken.bring(0, 0);
        broken.drawTo(0, 9);
        broken.hour(1);
        Check.due("bring(1, 0), not at the shore", broken.bring(1, 0), Check.NOT);
        broken.drawTo(0, 0);
        Check.due("bring(1, 0), where case 0 broke off", broken.bring(1, 0), 0);
        // Another hut's case is no matter.
        BathingCourt other = Check.court("b0;h9;h9;" + CASE.repeat(2));
        other.bring(0, 0);
        Check.due("bring(1, 1), beside", other.bring(1, 1), 0);
    }

    /** "at CELL 0"; "NOT: .. not at the shore" */
    private static void bringOnlyAtTheShore() {
        for (int cell = 0; cell <= 9; cell++) {
            BathingCourt x = Check.court("b9;h9;" + CASE);
            x.drawTo(0, cell);
            Check.due("bring(0, 0) at cell " + cell, x.bring(0, 0), cell == 0 ? 0 : Check.NOT);
            x.hour(1);
            Check.due("bring(0, 0) at cell " + cell + ", later", x.bring(0, 0), Check.NOT);
        }
        // Dry cells are not the shore, and a hut that came there in this very hour is.
        BathingCourt back = Check.court("b9;h9;" + CASE);
        back.drawTo(0, 1);
        back.hour(1);
        back.drawTo(0, 0);
        Check.due("bring(0, 0), drawn to the shore this hour", back.bring(0, 0), 0);
    }

    /** "BROUGHT: WAITING ones yet (a SET)." */
    private static void bringAnswersASet() {
        BathingCourt x = Check.court("b9;h1;h1;h1;h1;" + CASE.repeat(5));
        Check.due("bring(4, 0)", x.bring(4, 0), 15);
        Check.due("bring(0, 3)", x.bring(0, 3), 14);
        Check.due("bring(2, 2)", x.bring(2, 2), 10);
        Check.due("bring(1, 1)", x.bring(1, 1), 8);
        Check.due("told(5)", x.told(5), 8);
        x.settle(4);
        Check.due("bring(3, 0)", x.bring(3, 0), 0);
        Check.due("told(5)", x.told(5), 0);
        int[] inside = {3, 1, 2, 0};
        for (int h = 0; h < 4; h++) {
            Check.due("hut(" + h + ", 2)", x.hut(h, 2), inside[h]);
        }
    }

    /** "a HUT goes to another CELL, if that is not further than P"; "DEPTH there now"; "NOT: .. it is too far, it is there" */
    private static void drawToEveryCell() {
        for (int p = 1; p <= 9; p++) {
            for (int from = 0; from <= 9; from++) {
                for (int to = 0; to <= 9; to++) {
                    BathingCourt x = Check.court("b9,3;h" + p + ";");
                    for (int at = 0; at < from; at++) {
                        x.drawTo(0, at + 1);
                        x.hour(2);
                    }
                    x.hour(1);
                    int way = Math.abs(to - from);
                    String call = "drawTo(0, " + to + ") from " + from + " by " + p;
                    boolean can = way >= 1 && way <= p;
                    Check.due(call, x.drawTo(0, to), can ? Math.max(0, to + 1 - 3) : Check.NOT);
                    Check.due("hut(0, 1) behind " + call, x.hut(0, 1), can ? to : from);
                    Check.due("hut(0, 3) behind " + call, x.hut(0, 3), can ? 1 : 0);
                }
            }
        }
    }

    /** "once an HOUR at most"; "NOT: it was DRAWN this HOUR" */
    private static void drawToOnceAnHour() {
        BathingCourt x = Check.court("b0;h9;h9;" + CASE);
        Check.due("drawTo(0, 5)", x.drawTo(0, 5), 6);
        for (int to = 0; to <= 9; to++) {
            Check.due("drawTo(0, " + to + ") in the same hour", x.drawTo(0, to), Check.NOT);
        }
        Check.due("drawTo(1, 5), the other one", x.drawTo(1, 5), 6);
        x.hour(1);
        Check.due("drawTo(0, 0) in the next hour", x.drawTo(0, 0), 1);
        Check.due("bring(0, 0) into it", x.bring(0, 0), 0);
        Check.due("drawTo(0, 1) with a case, in the same hour", x.drawTo(0, 1), Check.NOT);
        x.undo();
        x.undo();
        Check.due("hut(0, 3) undone", x.hut(0, 3), 0);
        Check.due("drawTo(0, 9) undone", x.drawTo(0, 9), 10);
        // One that was refused was not drawn.
        BathingCourt y = Check.court("b0;h1;");
        Check.due("drawTo(0, 2), too far", y.drawTo(0, 2), Check.NOT);
        Check.due("drawTo(0, 10)", y.drawTo(0, 10), Check.OUTSIDE);
        Check.due("drawTo(0, 0), it is there", y.drawTo(0, 0), Check.NOT);
        Check.due("drawTo(0, 1)", y.drawTo(0, 1), 2);
    }

    /** "DRAWN to a CELL (0 .. 9) .. UNKNOWN, OUTSIDE, NOT" */
    private static void drawToBounds() {
        BathingCourt x = Check.court("b0;h9;");
        for (int cell : new int[] {LEAST, LEAST + 1, -9, -1, 10, 11, GREATEST}) {
            Check.due("drawTo(0, " + cell + ")", x.drawTo(0, cell), Check.OUTSIDE);
        }
        for (int h : new int[] {LEAST, -1, 1, 4, GREATEST}) {
            Check.due("drawTo(" + h + ", 1)", x.drawTo(h, 1), Check.UNKNOWN);
            Check.due("drawTo(" + h + ", 10)", x.drawTo(h, 10), Check.UNKNOWN);
            Check.due("drawTo(" + h + ", -1)", x.drawTo(h, -1), Check.UNKNOWN);
        }
        Check.due("drawTo(0, 9)", x.drawTo(0, 9), 10);
        Check.due("drawTo(0, 10), drawn", x.drawTo(0, 10), Check.OUTSIDE);
        Check.due("no beach: drawTo(0, 1)", new BathingCourt().drawTo(0, 1), Check.UNKNOWN);
        Check.due("no beach: drawTo(0, 10)", new BathingCourt().drawTo(0, 10), Check.UNKNOWN);
    }

    /** "SETTLED: a CASE that is WAITING, or in a HUT (it is empty then)."; "SETTLED: W." */
    private static void settleWaitingOrInAHut() {
        BathingCourt x = Check.court("b0;h9;h9;c1 4 9 0;c1 4 9 999;c1 4 9 5;");
        x.bring(1, 1);
        x.bring(2, 0);
        x.drawTo(1, 7);
        x.hour(2);
        Check.due("settle(0), waiting, of 0", x.settle(0), 0);
        Check.due("settle(1), in a hut, of 999", x.settle(1), 999);
        Check.due("hut(1, 2)", x.hut(1, 2), Check.NONE);
        Check.due("hut(1, 1)", x.hut(1, 1), 7);
        Check.due("hut(0, 2), the other hut", x.hut(0, 2), 2);
        Check.due("legal(0, 4)", x.legal(0, 4), 3);
        Check.due("legal(1, 4)", x.legal(1, 4), 3);
        Check.due("legal(2, 4)", x.legal(2, 4), 1);
        Check.due("told(5)", x.told(5), 0);
        Check.due("told(7)", x.told(7), 3);
        Check.due("told(9), of the judged alone", x.told(9), 0);
        x.hour(60);
        Check.due("legal(1, 4) later", x.legal(1, 4), 3);
        Check.due("legal(2, 4) later", x.legal(2, 4), 2);
    }

    /** "UNKNOWN, NOT: it is neither WAITING nor in a HUT." */
    private static void settleNeither() {
        int[] want = {10, 20, Check.NOT, Check.NOT, Check.NOT};
        for (int c = 0; c < 5; c++) {
            Check.due("settle(" + c + ") in state " + c, allStates().settle(c), want[c]);
        }
        for (int c : new int[] {LEAST, -1, 5, 6, GREATEST}) {
            Check.due("settle(" + c + ")", allStates().settle(c), Check.UNKNOWN);
        }
        Check.due("no beach: settle(0)", new BathingCourt().settle(0), Check.UNKNOWN);
        Check.due("no cases: settle(0)", Check.court("b0;h1;").settle(0), Check.UNKNOWN);
    }
}
