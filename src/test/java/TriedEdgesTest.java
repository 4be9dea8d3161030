/** Promises 15 to 22, edge by edge: each test is headed by the document's words that it is for. */
final class TriedEdgesTest {
    private static final int LEAST = Integer.MIN_VALUE, GREATEST = Integer.MAX_VALUE;

    public static void main(String[] args) {
        openByDepth();
        openHours0To11();
        openForEveryCase();
        planWithin12Hours();
        planInARow();
        planAllOpen();
        planOfSoManyHuts();
        planEndsSoonest();
        planFirstOfLikeOnes();
        planOfWaitingOnes();
        planFromNow();
        planBounds();
        planFullest();
        dryFirst();
        dryBounds();
        staysOnEnd();
        staysBounds();
        spotNearest();
        spotBounds();
        soonestByPace();
        soonestDrawnOrNot();
        soonestWithinDepths();
        soonestLatest();
        soonestNever();
        soonestBounds();
        offerCuts();
        offerBounds();
        calmCuts();
        calmBounds();
        Check.finish();
    }

    /** "in which some CELL has a DEPTH from D to D and N together" */
    private static void openByDepth() {
        for (int t = 0; t <= 9; t++) {
            for (int d = 1; d <= 9; d++) {
                for (int n = 0; n <= 9; n += 3) {
                    BathingCourt x = Check.court("b" + t + ";c" + d + " 1 " + n + " 0;");
                    // The deepest is CELL 9 with 10 less T; all from 1 to that there are.
                    Check.due("open(0) of T " + t + ", D " + d + ", N " + n, x.open(0), d <= 10 - t ? 4095 : 0);
                }
            }
        }
    }

    /** "HOURS 0 to 11 of THE TIDE from now on (a SET; bit 0: now)" */
    private static void openHours0To11() {
        for (int many = 1; many <= 12; many++) {
            for (int at = 0; at < many; at++) {
                BathingCourt x = Check.court(onlyIn(at, many) + "c9 1 0 0;");
                for (int now = 0; now <= many; now++) {
                    int want = 0;
                    for (int n = 0; n < 12; n++) {
                        want |= (now + n) % many == at ? 1 << n : 0;
                    }
                    Check.due("open(0), hour " + now + ", " + at + " of " + many, x.open(0), want);
                    x.hour(1);
                }
            }
        }
        BathingCourt last = Check.court(onlyIn(11, 12) + "c9 1 0 0;");
        Check.due("open(0), the last bit", last.open(0), 2048);
        last.hour(12);
        Check.due("open(0), the last bit again", last.open(0), 2048);
        last.hour(11);
        Check.due("open(0), bit 0", last.open(0), 1);
        last.hour(1);
        Check.due("open(0) an hour later: not bit 0", last.open(0), 2048);
    }

    /** A tide of so many hours in which depths 9 and 10 are only in one. */
    private static String onlyIn(int hour, int many) {
        StringBuilder text = new StringBuilder("b");
        for (int k = 0; k < many; k++) {
            text.append(k == 0 ? "" : ",").append(k == hour ? 0 : 9);
        }
        return text.append(';').toString();
    }

    /** "OPEN. UNKNOWN." */
    private static void openForEveryCase() {
        BathingCourt x = Check.court("b0;c1 1 0 0;c1 1 0 0;c1 1 0 0;c1 1 0 0;c9 1 0 0;");
        for (int c = 0; c < 5; c++) {
            Check.due("open(" + c + ")", x.open(c), 4095);
            x.settle(c);
            Check.due("open(" + c + "), settled", x.open(c), 4095);
        }
        for (int c : new int[] {LEAST, -1, 5, GREATEST}) {
            Check.due("open(" + c + ")", x.open(c), Check.UNKNOWN);
        }
        Check.due("no beach: open(0)", new BathingCourt().open(0), Check.UNKNOWN);
        Check.due("no cases: open(0)", Check.court("b0;").open(0), Check.UNKNOWN);
    }

    /** "none beyond 12 HOURS" */
    private static void planWithin12Hours() {
        planned("b0;c1 4 0 0;c1 4 0 0;c1 3 0 0;", 1, 11, 0, 4, 8);
        planned("b0;c1 4 0 0;c1 4 0 0;c1 4 0 0;", 1, 12, 0, 4, 8);
        planned("b0;c1 4 0 0;c1 4 0 0;c1 4 0 0;c1 1 0 0;", 1, Check.NONE, Check.NONE, Check.NONE, Check.NONE, Check.NONE);
        planned(onlyIn(11, 12) + "c9 1 0 0;", 1, 12, 11);
        planned(onlyIn(11, 12) + "c9 1 0 0;c1 1 0 0;", 1, 12, 11, 0);
        // It is open in the last hour, and would be in the first behind that.
        planned("b0,9,9,9,9,9,9,9,9,9,9,0;c9 2 0 0;", 1, Check.NONE, Check.NONE);
        planned("b9,9,9,9,9,9,9,9,9,9,0,0;c9 2 0 0;", 1, 12, 10);
        planned("b9,9,9,9,9,9,9,9,0,0,0,0;c9 4 0 0;", 4, 12, 8);
        planned("b9,9,9,9,9,9,9,9,9,0,0,0;c9 4 0 0;", 4, Check.NONE, Check.NONE);
    }

    /** "HOURS in a row (L of each)" */
    private static void planInARow() {
        for (int l = 1; l <= 4; l++) {
            planned("b0;c1 " + l + " 0 0;", 1, l, 0);
        }
        planned("b0,9,0,0,9,0,0,0,9,0,0,0;c9 1 0 0;", 1, 1, 0);
        planned("b0,9,0,0,9,0,0,0,9,0,0,0;c9 2 0 0;", 1, 4, 2);
        planned("b0,9,0,0,9,0,0,0,9,0,0,0;c9 3 0 0;", 1, 8, 5);
        // Four in a row there are only across the end of the tide.
        planned("b0,9,0,0,9,0,0,0,9,0,0,0;c9 4 0 0;", 1, Check.NONE, Check.NONE);
        planned("b0,9,9,0;c9 2 0 0;", 1, 5, 3);
    }

    /** "all OPEN for each" */
    private static void planAllOpen() {
        // One case is never open, so there is no plan for any.
        planned("b2;c8 1 0 0;c9 1 0 0;", 4, Check.NONE, Check.NONE, Check.NONE);
        planned("b1;c8 1 0 0;c9 1 0 0;", 4, 1, 0, 0);
        planned("b9,9,5,9,2,9;c1 1 0 0;c5 1 0 0;c8 1 0 0;", 4, 5, 0, 2, 4);
    }

    /** "PLAN with m HUTS (1 .. 4)"; "no more than m CASES in one HOUR" */
    private static void planOfSoManyHuts() {
        String five = "b0;" + "c1 2 0 0;".repeat(5);
        planned(five, 1, 10, 0, 2, 4, 6, 8);
        planned(five, 2, 6, 0, 0, 2, 2, 4);
        planned(five, 3, 4, 0, 0, 0, 2, 2);
        planned(five, 4, 4, 0, 0, 0, 0, 2);
        // m is the asker's: this beach has no hut at all, and that one has more.
        planned("b0;h1;h1;h1;h1;c1 1 0 0;c1 1 0 0;", 1, 2, 0, 1);
        planned(onlyIn(3, 12) + "c9 1 0 0;".repeat(4), 4, 4, 3, 3, 3, 3);
        planned(onlyIn(3, 12) + "c9 1 0 0;".repeat(4), 3, Check.NONE, Check.NONE, Check.NONE, Check.NONE, Check.NONE);
        planned(onlyIn(3, 12) + "c9 1 0 0;".repeat(5), 4, Check.NONE, Check.NONE, Check.NONE, Check.NONE, Check.NONE,
                Check.NONE);
        // Of cases that overlap in one hour alone.
        planned("b0;c1 3 0 0;c1 3 0 0;", 1, 6, 0, 3);
        planned("b0,0,0,9,9,9;c9 2 0 0;c9 2 0 0;", 1, 8, 0, 6);
    }

    /** "by which the last one ends soonest" */
    private static void planEndsSoonest() {
        // To begin the first case at once would leave the second only the next time that it is deep.
        planned("b0,9,9,9,9,9;c1 1 0 0;c9 1 0 0;", 1, 2, 1, 0);
        planned("b0,0,9,9,9,9;c9 1 0 0;c1 4 0 0;c9 1 0 0;", 2, 4, 0, 0, 1);
        planned("b0;c1 1 0 0;c1 1 0 0;c1 4 0 0;c1 2 0 0;", 2, 4, 0, 1, 0, 2);
        // The longest, told of last, must begin at once.
        planned("b0;c1 2 0 0;c1 2 0 0;c1 2 0 0;c1 2 0 0;c1 4 0 0;", 3, 4, 0, 0, 2, 2, 0);
    }

    /** "of like ones the first (CASE by CASE the earlier)" */
    private static void planFirstOfLikeOnes() {
        planned("b0;c1 1 0 0;c1 1 0 0;", 1, 2, 0, 1);
        planned("b0;c1 3 0 0;c1 1 0 0;", 1, 4, 0, 3);
        planned("b0;c1 1 0 0;c1 4 0 0;", 4, 4, 0, 0);
        planned("b0;c1 1 0 0;c1 1 0 0;c1 4 0 0;", 2, 4, 0, 1, 0);
        planned("b0;c1 2 0 0;c1 1 0 0;c1 1 0 0;c1 4 0 0;", 2, 4, 0, 2, 3, 0);
        // The first one earlier, though the others together would be so if it were not.
        planned("b0;c1 2 0 0;c1 1 0 0;c1 1 0 0;", 1, 4, 0, 2, 3);
    }

    /** "for all WAITING CASES"; "c = NONE behind how many HOURS (none WAITING: 0), else the HOUR of a CASE (it does not WAIT: NONE); NONE" */
    private static void planOfWaitingOnes() {
        BathingCourt x = Check.court("b0;h9;h9;h9;c9 1 0 0;c1 4 0 0;c1 1 0 0;c9 2 0 0;c1 1 0 0;");
        plannedOf(x, 1, 9, 0, 1, 5, 6, 8);
        x.bring(1, 1);
        plannedOf(x, 1, 5, 0, Check.NONE, 1, 2, 4);
        x.bring(2, 0);
        x.bring(4, 2);
        x.drawTo(2, 1);
        x.settle(3);
        x.hour(1);
        plannedOf(x, 1, 1, 0, Check.NONE, Check.NONE, Check.NONE, Check.NONE);
        x.settle(0);
        plannedOf(x, 1, 0, Check.NONE, Check.NONE, Check.NONE, Check.NONE, Check.NONE);
        // The one that has no plan no longer waits.
        BathingCourt never = Check.court("b9;c9 1 0 0;c1 1 0 0;");
        plannedOf(never, 1, Check.NONE, Check.NONE, Check.NONE);
        never.settle(0);
        plannedOf(never, 1, 1, Check.NONE, 0);
        never.undo();
        plannedOf(never, 1, Check.NONE, Check.NONE, Check.NONE);
        Check.due("no cases: plan(1, -1)", Check.court("b0;h1;").plan(1, -1), 0);
        Check.due("no beach: plan(4, -1)", new BathingCourt().plan(4, -1), 0);
    }

    /** "TRIED from now" */
    private static void planFromNow() {
        BathingCourt x = Check.court(onlyIn(11, 12) + "c9 1 0 0;");
        for (int now = 0; now <= 13; now++) {
            int begin = (23 - now) % 12;
            plannedOf(x, 1, begin + 1, begin);
            x.hour(1);
        }
    }

    /** "UNKNOWN, OUTSIDE." */
    private static void planBounds() {
        BathingCourt x = Check.court("b0;" + "c1 1 0 0;".repeat(5));
        BathingCourt none = new BathingCourt();
        for (int m : new int[] {LEAST, -1, 0, 5, 6, GREATEST}) {
            Check.due("plan(" + m + ", -1)", x.plan(m, -1), Check.OUTSIDE);
            Check.due("plan(" + m + ", 0)", x.plan(m, 0), Check.OUTSIDE);
            Check.due("plan(" + m + ", 5)", x.plan(m, 5), Check.UNKNOWN);
            Check.due("no beach: plan(" + m + ", -1)", none.plan(m, -1), Check.OUTSIDE);
            Check.due("no beach: plan(" + m + ", 0)", none.plan(m, 0), Check.UNKNOWN);
        }
        for (int c : new int[] {LEAST, -3, -2, 5, 6, GREATEST}) {
            Check.due("plan(1, " + c + ")", x.plan(1, c), Check.UNKNOWN);
        }
        for (int m = 1; m <= 4; m++) {
            Check.due("plan(" + m + ", -1)", x.plan(m, -1), (5 + m - 1) / m);
            Check.due("plan(" + m + ", 4)", x.plan(m, 4), 4 / m);
            Check.due("no beach: plan(" + m + ", -1)", none.plan(m, -1), 0);
        }
        x.settle(0);
        Check.due("plan(5, 0), which does not wait", x.plan(5, 0), Check.OUTSIDE);
    }

    /** Five cases of four hours: three by one hut, six by two. */
    private static void planFullest() {
        String five = "b0;" + "c1 4 0 0;".repeat(5);
        planned(five, 1, Check.NONE, Check.NONE, Check.NONE, Check.NONE, Check.NONE, Check.NONE);
        planned(five, 2, 12, 0, 0, 4, 4, 8);
        planned(five, 3, 8, 0, 0, 0, 4, 4);
        planned(five, 4, 8, 0, 0, 0, 0, 4);
    }

    private static void planned(String text, int m, int hours, int... begins) {
        plannedOf(Check.court(text), m, hours, begins);
    }

    private static void plannedOf(BathingCourt x, int m, int hours, int... begins) {
        Check.due("plan(" + m + ", -1)", x.plan(m, -1), hours);
        for (int c = 0; c < begins.length; c++) {
            Check.due("plan(" + m + ", " + c + ")", x.plan(m, c), begins[c]);
        }
    }

    /** "DRY: behind how many HOURS (0 .. 100) a CELL is dry (DEPTH 0) first; NONE." */
    private static void dryFirst() {
        for (int at = 0; at < 12; at++) {
            StringBuilder text = new StringBuilder("b");
            for (int k = 0; k < 12; k++) {
                text.append(k == 0 ? "" : ",").append(k == at ? 6 : 5);
            }
            BathingCourt x = Check.court(text + ";");
            Check.due("dry(4), always", x.dry(4), 0);
            Check.due("dry(5), in hour " + at, x.dry(5), at);
            Check.due("dry(6), never", x.dry(6), Check.NONE);
            x.hour(at);
            Check.due("dry(5), now", x.dry(5), 0);
            x.hour(1);
            Check.due("dry(5), just no more", x.dry(5), 11);
        }
        Check.due("dry(0) of tide 0", Check.court("b0;").dry(0), Check.NONE);
        Check.due("dry(0) of tide 1", Check.court("b1;").dry(0), 0);
        Check.due("dry(8) of tide 9", Check.court("b9;").dry(8), 0);
        Check.due("dry(9) of tide 9", Check.court("b9;").dry(9), Check.NONE);
    }

    /** "OUTSIDE, NOT: no BEACH." */
    private static void dryBounds() {
        for (int cell : new int[] {LEAST, -1, 10, 11, GREATEST}) {
            Check.due("dry(" + cell + ")", Check.court("b9;").dry(cell), Check.OUTSIDE);
            Check.due("no beach: dry(" + cell + ")", new BathingCourt().dry(cell), Check.OUTSIDE);
        }
        Check.due("no beach: dry(0)", new BathingCourt().dry(0), Check.NOT);
        Check.due("no beach: dry(9)", new BathingCourt().dry(9), Check.NOT);
    }

    /** "how many HOURS on end from now on (100 at most) a CELL has a DEPTH of d (0 .. 10) or less" */
    private static void staysOnEnd() {
        BathingCourt x = Check.court("b6,6,6,6,6,6,6,6,6,6,6,5;");
        Check.due("stays(5, 0)", x.stays(5, 0), 11);
        Check.due("stays(5, 1)", x.stays(5, 1), 100);
        x.hour(1);
        Check.due("stays(5, 0) an hour on", x.stays(5, 0), 10);
        x.hour(10);
        Check.due("stays(5, 0), not now", x.stays(5, 0), 0);
        x.hour(1);
        Check.due("stays(5, 0), as at first", x.stays(5, 0), 11);
        for (int t = 0; t <= 9; t++) {
            BathingCourt y = Check.court("b" + t + ";");
            for (int cell = 0; cell <= 9; cell++) {
                int depth = Math.max(0, cell + 1 - t);
                for (int d = 0; d <= 10; d++) {
                    Check.due("stays(" + cell + ", " + d + ") of tide " + t, y.stays(cell, d), depth <= d ? 100 : 0);
                }
            }
        }
    }

    /** "OUTSIDE, NOT: no BEACH." */
    private static void staysBounds() {
        BathingCourt x = Check.court("b0;");
        BathingCourt none = new BathingCourt();
        for (int cell : new int[] {LEAST, -1, 10, 11, GREATEST}) {
            Check.due("stays(" + cell + ", 0)", x.stays(cell, 0), Check.OUTSIDE);
            Check.due("no beach: stays(" + cell + ", 0)", none.stays(cell, 0), Check.OUTSIDE);
        }
        for (int d : new int[] {LEAST, -1, 11, 12, GREATEST}) {
            Check.due("stays(0, " + d + ")", x.stays(0, d), Check.OUTSIDE);
            Check.due("no beach: stays(0, " + d + ")", none.stays(0, d), Check.OUTSIDE);
        }
        Check.due("stays(9, 10)", x.stays(9, 10), 100);
        Check.due("stays(0, 0)", x.stays(0, 0), 0);
        Check.due("no beach: stays(0, 0)", none.stays(0, 0), Check.NOT);
        Check.due("no beach: stays(9, 10)", none.stays(9, 10), Check.NOT);
    }

    /** "the CELL nearest to the shore that has just DEPTH d now; NONE" */
    private static void spotNearest() {
        for (int t = 0; t <= 9; t++) {
            BathingCourt x = Check.court("b" + (t + 5) % 10 + "," + t + ";");
            x.hour(1);
            Check.due("spot(0) of tide " + t, x.spot(0), t == 0 ? Check.NONE : 0);
            for (int d = 1; d <= 10; d++) {
                Check.due("spot(" + d + ") of tide " + t, x.spot(d), t + d - 1 <= 9 ? t + d - 1 : Check.NONE);
            }
        }
    }

    /** "SPOT (d 0 .. 10); NONE. OUTSIDE, NOT: no BEACH." */
    private static void spotBounds() {
        for (int d : new int[] {LEAST, -1, 11, 12, GREATEST}) {
            Check.due("spot(" + d + ")", Check.court("b0;").spot(d), Check.OUTSIDE);
            Check.due("no beach: spot(" + d + ")", new BathingCourt().spot(d), Check.OUTSIDE);
        }
        Check.due("no beach: spot(0)", new BathingCourt().spot(0), Check.NOT);
        Check.due("no beach: spot(10)", new BathingCourt().spot(10), Check.NOT);
    }

    /** "from CELLS where it can be it can be DRAWN to all that are no further than P, once in each HOUR" */
    private static void soonestByPace() {
        for (int p = 1; p <= 9; p++) {
            for (int d = 1; d <= 9; d++) {
                BathingCourt x = Check.court("b0;h" + p + ";c" + d + " 1 0 0;");
                int way = d - 1;
                Check.due("soonest(0, 0), " + way + " by " + p, x.soonest(0, 0), way == 0 ? 0 : (way + p - 1) / p - 1);
            }
        }
        // Back to the shore it goes as fast.
        BathingCourt back = Check.court("b0;h2;c1 1 0 0;");
        for (int cell = 2; cell <= 8; cell += 2) {
            back.drawTo(0, cell);
            back.hour(1);
        }
        Check.due("soonest(0, 0) from cell 8", back.soonest(0, 0), 3);
        back.drawTo(0, 9);
        Check.due("soonest(0, 0) from cell 9, drawn", back.soonest(0, 0), 5);
    }

    /** "(in this one, too, if it was not DRAWN in it)"; "it is where it is now" */
    private static void soonestDrawnOrNot() {
        BathingCourt x = Check.court("b0;h3;h9;c1 1 0 0;c4 1 0 0;c5 1 0 0;c7 1 0 0;c8 1 0 0;");
        soonest(x, 0, 0, 1, 1, 2);
        x.drawTo(0, 3);
        soonest(x, 1, 0, 1, 1, 2);
        x.hour(1);
        soonest(x, 0, 0, 0, 0, 1);
        // Of the other hut nothing is changed by that.
        Check.due("soonest(1, 4)", x.soonest(1, 4), 0);
        x.drawTo(1, 9);
        Check.due("soonest(1, 4), drawn", x.soonest(1, 4), 1);
        x.undo();
        Check.due("soonest(1, 4), undone", x.soonest(1, 4), 0);
    }

    private static void soonest(BathingCourt x, int... want) {
        for (int c = 0; c < want.length; c++) {
            Check.due("soonest(0, " + c + ")", x.soonest(0, c), want[c]);
        }
    }

    /** "a CELL which then has a DEPTH from D to D and N together" */
    private static void soonestWithinDepths() {
        // From CELL 9 (depth 10) by one an hour, to the first that is not too deep.
        for (int n = 0; n <= 9; n++) {
            BathingCourt x = Check.court("b0;h9;h1;c1 1 " + n + " 0;");
            x.drawTo(0, 9);
            Check.due("soonest(0, 0), drawn to depth 10, D 1, N " + n, x.soonest(0, 0), n == 9 ? 0 : 1);
            x.hour(1);
            Check.due("soonest(1, 0) at depth 1", x.soonest(1, 0), 0);
        }
        // The tide comes to the hut: "then", not now.
        BathingCourt flood = Check.court("b9,8,7,6,5;h1;c5 1 0 0;c6 1 0 0;");
        Check.due("soonest(0, 0), depth 5 at cell 9 in hour 4", flood.soonest(0, 0), 9);
        Check.due("soonest(0, 1), depth 6 in no hour", flood.soonest(0, 1), Check.NONE);
        BathingCourt near = Check.court("b9,8,7,1,9;h1;c3 1 0 0;c4 1 0 0;c2 1 9 0;");
        Check.due("soonest(0, 0), depth 3 at cell 3 in hour 3", near.soonest(0, 0), 3);
        Check.due("soonest(0, 1), depth 4 at cell 4 in hour 3", near.soonest(0, 1), 3);
        Check.due("soonest(0, 2)", near.soonest(0, 2), 3);
    }

    /** "(0 .. 30)": so late as it can be at all, by a slow horse that was drawn and a tide that it just misses. */
    private static void soonestLatest() {
        BathingCourt x = Check.court("b9,9,9,9,9,9,9,9,9,1,9,9;h1;c9 1 0 0;c9 1 9 0;");
        x.drawTo(0, 1);
        x.hour(1);
        x.drawTo(0, 0);
        Check.due("soonest(0, 0), drawn to the shore, depth 9 in hours 8 and 20", x.soonest(0, 0), 20);
        Check.due("soonest(0, 1)", x.soonest(0, 1), 20);
        x.undo();
        // Not drawn and at CELL 1 it is at CELL 9 in time.
        Check.due("soonest(0, 0), at cell 1, not drawn", x.soonest(0, 0), 8);
    }

    /** "NONE" */
    private static void soonestNever() {
        Check.due("soonest(0, 0), nowhere so deep", Check.court("b2;h9;c9 1 9 0;").soonest(0, 0), Check.NONE);
        Check.due("soonest(0, 0), just so deep", Check.court("b1;h9;c9 1 9 0;").soonest(0, 0), 0);
    }

    /** "SOONEST; NONE. UNKNOWN." */
    private static void soonestBounds() {
        BathingCourt x = Check.court("b0;h1;h1;h1;h1;" + "c1 1 0 0;".repeat(5));
        for (int h : new int[] {LEAST, -1, 4, GREATEST}) {
            Check.due("soonest(" + h + ", 0)", x.soonest(h, 0), Check.UNKNOWN);
        }
        for (int c : new int[] {LEAST, -1, 5, GREATEST}) {
            Check.due("soonest(0, " + c + ")", x.soonest(0, c), Check.UNKNOWN);
        }
        Check.due("soonest(3, 4)", x.soonest(3, 4), 0);
        x.settle(4);
        Check.due("soonest(3, 4), settled", x.soonest(3, 4), 0);
        Check.due("no beach: soonest(0, 0)", new BathingCourt().soonest(0, 0), Check.UNKNOWN);
        Check.due("no huts: soonest(0, 0)", Check.court("b0;c1 1 0 0;").soonest(0, 0), Check.UNKNOWN);
        Check.due("no cases: soonest(0, 0)", Check.court("b0;h1;").soonest(0, 0), Check.UNKNOWN);
    }

    /** "W times odds / 100, less the costs, 0 at least; .. W times odds / 100, and the costs" */
    private static void offerCuts() {
        BathingCourt x = Check.court("b0;c1 1 0 0;c1 1 0 1;c1 1 0 99;c1 1 0 500;c1 1 0 999;");
        int[] sums = {0, 1, 99, 500, 999};
        for (int c = 0; c < 5; c++) {
            for (int odds : new int[] {0, 1, 33, 50, 99, 100}) {
                int worth = sums[c] * odds / 100;
                int[] costs = {0, 1, Math.max(0, worth - 1), worth, worth + 1 > 999 ? 999 : worth + 1, 999};
                for (int cost : costs) {
                    String call = "offer(" + c + ", " + odds + ", " + cost + ", ";
                    Check.due(call + "0)", x.offer(c, odds, cost, 0), worth > cost ? worth - cost : 0);
                    Check.due(call + "1)", x.offer(c, odds, cost, 1), worth + cost);
                }
            }
        }
        Check.due("offer(1, 99, 0, 1): 0.99 is cut", x.offer(1, 99, 0, 1), 0);
        Check.due("offer(4, 100, 999, 1)", x.offer(4, 100, 999, 1), 1998);
        Check.due("offer(4, 100, 999, 0)", x.offer(4, 100, 999, 0), 0);
        Check.due("offer(4, 100, 998, 0)", x.offer(4, 100, 998, 0), 1);
        x.settle(4);
        Check.due("offer(4, 100, 0, 0), settled", x.offer(4, 100, 0, 0), 999);
    }

    /** "by odds of a hundred (0 .. 100), a court costs each side so much (0 .. 999)"; "what = 0 .. 1 .. UNKNOWN, OUTSIDE." */
    private static void offerBounds() {
        BathingCourt x = Check.court("b0;" + "c1 1 0 100;".repeat(5));
        for (int odds : new int[] {LEAST, -1, 101, 102, GREATEST}) {
            Check.due("offer(0, " + odds + ", 0, 0)", x.offer(0, odds, 0, 0), Check.OUTSIDE);
        }
        for (int costs : new int[] {LEAST, -1, 1000, 1001, GREATEST}) {
            Check.due("offer(0, 0, " + costs + ", 0)", x.offer(0, 0, costs, 0), Check.OUTSIDE);
        }
        for (int what : new int[] {LEAST, -1, 2, 3, GREATEST}) {
            Check.due("offer(0, 0, 0, " + what + ")", x.offer(0, 0, 0, what), Check.OUTSIDE);
        }
        for (int c : new int[] {LEAST, -1, 5, 6, GREATEST}) {
            Check.due("offer(" + c + ", 0, 0, 0)", x.offer(c, 0, 0, 0), Check.UNKNOWN);
            Check.due("offer(" + c + ", 101, 1000, 2)", x.offer(c, 101, 1000, 2), Check.UNKNOWN);
        }
        Check.due("offer(0, 0, 0, 0)", x.offer(0, 0, 0, 0), 0);
        Check.due("offer(4, 100, 999, 1)", x.offer(4, 100, 999, 1), 1099);
        Check.due("no beach: offer(0, 0, 0, 0)", new BathingCourt().offer(0, 0, 0, 0), Check.UNKNOWN);
    }

    /** "a BILLION times (100 less q) / 100 each (cut)" */
    private static void calmCuts() {
        for (int q = 0; q <= 100; q++) {
            BathingCourt x = new BathingCourt();
            long odds = 1000000000;
            for (int n = 0; n <= 60; n++) {
                Check.due("calm(" + n + ", " + q + ")", x.calm(n, q), odds);
                odds = odds * (100 - q) / 100;
            }
        }
        // 0.93 to the tenth is 0.4839823071..; a cut each day makes the last figure another.
        Check.due("calm(10, 7)", new BathingCourt().calm(10, 7), 483982306);
        Check.due("calm(9, 90)", new BathingCourt().calm(9, 90), 1);
        Check.due("calm(10, 90)", new BathingCourt().calm(10, 90), 0);
    }

    /** "in n days (0 .. 60), each by q of a hundred (0 .. 100)"; "OUTSIDE." */
    private static void calmBounds() {
        BathingCourt x = new BathingCourt();
        for (int n : new int[] {LEAST, -1, 61, 62, GREATEST}) {
            Check.due("calm(" + n + ", 0)", x.calm(n, 0), Check.OUTSIDE);
        }
        for (int q : new int[] {LEAST, -1, 101, 102, GREATEST}) {
            Check.due("calm(0, " + q + ")", x.calm(0, q), Check.OUTSIDE);
        }
        Check.due("calm(0, 0)", x.calm(0, 0), 1000000000);
        Check.due("calm(0, 100)", x.calm(0, 100), 1000000000);
        Check.due("calm(1, 100)", x.calm(1, 100), 0);
        Check.due("calm(60, 0)", x.calm(60, 0), 1000000000);
        Check.due("calm(60, 100)", x.calm(60, 100), 0);
    }
}
