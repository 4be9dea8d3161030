/** Promises 15 to 22: what is tried; nothing changes by it. */
final class TriedTest {
    private static final String TEXT = "b2,4,6,5,3;h3;h9;c2 2 1 500;c4 1 0 90;c1 3 2 0;c9 1 9 1;";

    public static void main(String[] args) {
        open();
        plan();
        planOfLikeOnes();
        planRefusals();
        dry();
        stays();
        spot();
        soonest();
        offer();
        calm();
        nothingChanges();
        Check.finish();
    }

    private static void open() {
        BathingCourt x = Check.court("b0,9,5,1,2;c9 1 0 0;c1 1 0 0;c5 1 9 0;c8 1 0 0;");
        Check.due("open(0)", x.open(0), 1 | 1 << 3 | 1 << 5 | 1 << 8 | 1 << 10);
        Check.due("open(1)", x.open(1), 4095);
        Check.due("open(2)", x.open(2), 4095 & ~(1 << 1 | 1 << 6 | 1 << 11));
        Check.due("open(3)", x.open(3), 1 | 1 << 3 | 1 << 4 | 1 << 5 | 1 << 8 | 1 << 9 | 1 << 10);
        x.hour(3);
        Check.due("open(0) three hours on", x.open(0), 1 | 1 << 2 | 1 << 5 | 1 << 7 | 1 << 10);
        x.settle(0);
        Check.due("open(0) settled", x.open(0), 1 | 1 << 2 | 1 << 5 | 1 << 7 | 1 << 10);
        Check.due("open(4)", x.open(4), Check.UNKNOWN);
        Check.due("open(-1)", x.open(-1), Check.UNKNOWN);
        Check.due("no beach: open(0)", new BathingCourt().open(0), Check.UNKNOWN);
    }

    private static void plan() {
        BathingCourt x = Check.court("b0;c1 4 0 0;c1 4 0 0;c1 4 0 0;");
        planned(x, 1, 12, 0, 4, 8);
        planned(x, 2, 8, 0, 0, 4);
        planned(x, 3, 4, 0, 0, 0);
        planned(x, 4, 4, 0, 0, 0);
        BathingCourt over = Check.court("b0;c1 4 0 0;c1 4 0 0;c1 4 0 0;c1 1 0 0;");
        planned(over, 1, Check.NONE, Check.NONE, Check.NONE, Check.NONE, Check.NONE);
        planned(over, 2, 8, 0, 0, 4, 4);
        over.settle(1);
        planned(over, 1, 9, 0, Check.NONE, 4, 8);
        over.settle(0);
        over.settle(2);
        over.settle(3);
        planned(over, 1, 0, Check.NONE, Check.NONE, Check.NONE, Check.NONE);
        BathingCourt late = Check.court("b9,9,9,9,9,9,9,9,9,9,0,0;c2 2 0 0;c1 1 0 0;");
        planned(late, 1, 12, 10, 0);
        late.hour(1);
        planned(late, 1, 11, 9, 0);
        late.hour(10);
        planned(late, 1, Check.NONE, Check.NONE, Check.NONE);
    }

    private static void planOfLikeOnes() {
        // Three cases of 1, 2, 3 hours by one hut: the first begins first, though all orders end alike.
        planned(Check.court("b0;c1 1 0 0;c1 2 0 0;c1 3 0 0;"), 1, 6, 0, 1, 3);
        // The first gives way where the second could not wait, and the last one ends soonest by that.
        planned(Check.court("b0,9,9,9,9;c1 1 0 0;c2 1 0 0;"), 1, 2, 1, 0);
        planned(Check.court("b0,9,9,9,9;c1 1 0 0;c2 1 0 0;"), 2, 1, 0, 0);
        // The first two could both begin at once, but then the third would end later.
        planned(Check.court("b0;c1 1 0 0;c1 1 0 0;c1 4 0 0;c1 2 0 0;"), 2, 4, 0, 1, 0, 2);
    }

    private static void planRefusals() {
        BathingCourt x = Check.court(TEXT);
        Check.due("plan(0, -1)", x.plan(0, -1), Check.OUTSIDE);
        Check.due("plan(5, -1)", x.plan(5, -1), Check.OUTSIDE);
        Check.due("plan(0, 0)", x.plan(0, 0), Check.OUTSIDE);
        Check.due("plan(1, 4)", x.plan(1, 4), Check.UNKNOWN);
        Check.due("plan(1, -2)", x.plan(1, -2), Check.UNKNOWN);
        Check.due("plan(5, 4)", x.plan(5, 4), Check.UNKNOWN);
        Check.due("no beach: plan(1, -1)", new BathingCourt().plan(1, -1), 0);
        Check.due("no beach: plan(5, -1)", new BathingCourt().plan(5, -1), Check.OUTSIDE);
        Check.due("no beach: plan(1, 0)", new BathingCourt().plan(1, 0), Check.UNKNOWN);
    }

    private static void planned(BathingCourt x, int m, int hours, int... begins) {
        Check.due("plan(" + m + ", -1)", x.plan(m, -1), hours);
        for (int c = 0; c < begins.length; c++) {
            Check.due("plan(" + m + ", " + c + ")", x.plan(m, c), begins[c]);
        }
    }

    private static void dry() {
        BathingCourt x = Check.court("b0,3,0,6;");
        Check.due("dry(0)", x.dry(0), 1);
        Check.due("dry(2)", x.dry(2), 1);
        Check.due("dry(3)", x.dry(3), 3);
        Check.due("dry(5)", x.dry(5), 3);
        Check.due("dry(6)", x.dry(6), Check.NONE);
        x.hour(1);
        Check.due("dry(2) now", x.dry(2), 0);
        Check.due("dry(-1)", x.dry(-1), Check.OUTSIDE);
        Check.due("dry(10)", x.dry(10), Check.OUTSIDE);
        Check.due("no beach: dry(10)", new BathingCourt().dry(10), Check.OUTSIDE);
        Check.due("no beach: dry(9)", new BathingCourt().dry(9), Check.NOT);
    }

    private static void stays() {
        BathingCourt x = Check.court("b5,5,4,3;");
        Check.due("stays(4, 0)", x.stays(4, 0), 2);
        Check.due("stays(4, 1)", x.stays(4, 1), 3);
        Check.due("stays(4, 2)", x.stays(4, 2), 100);
        Check.due("stays(9, 4)", x.stays(9, 4), 0);
        Check.due("stays(9, 10)", x.stays(9, 10), 100);
        x.hour(3);
        Check.due("stays(4, 1) three hours on", x.stays(4, 1), 0);
        Check.due("stays(-1, 0)", x.stays(-1, 0), Check.OUTSIDE);
        Check.due("stays(10, 0)", x.stays(10, 0), Check.OUTSIDE);
        Check.due("stays(0, -1)", x.stays(0, -1), Check.OUTSIDE);
        Check.due("stays(0, 11)", x.stays(0, 11), Check.OUTSIDE);
        Check.due("no beach: stays(0, 11)", new BathingCourt().stays(0, 11), Check.OUTSIDE);
        Check.due("no beach: stays(0, 10)", new BathingCourt().stays(0, 10), Check.NOT);
    }

    private static void spot() {
        BathingCourt x = Check.court("b0,4;");
        Check.due("spot(0)", x.spot(0), Check.NONE);
        Check.due("spot(1)", x.spot(1), 0);
        Check.due("spot(10)", x.spot(10), 9);
        x.hour(1);
        Check.due("spot(0) an hour on", x.spot(0), 0);
        Check.due("spot(1) an hour on", x.spot(1), 4);
        Check.due("spot(6) an hour on", x.spot(6), 9);
        Check.due("spot(7) an hour on", x.spot(7), Check.NONE);
        Check.due("spot(-1)", x.spot(-1), Check.OUTSIDE);
        Check.due("spot(11)", x.spot(11), Check.OUTSIDE);
        Check.due("no beach: spot(11)", new BathingCourt().spot(11), Check.OUTSIDE);
        Check.due("no beach: spot(0)", new BathingCourt().spot(0), Check.NOT);
    }

    private static void soonest() {
        BathingCourt x = Check.court("b0;h1;h4;c1 1 0 0;c9 1 0 0;c9 1 1 0;c2 1 0 0;");
        Check.due("soonest(0, 0)", x.soonest(0, 0), 0);
        Check.due("soonest(0, 3)", x.soonest(0, 3), 0);
        Check.due("soonest(0, 1)", x.soonest(0, 1), 7);
        Check.due("soonest(1, 1)", x.soonest(1, 1), 1);
        x.drawTo(1, 4);
        Check.due("soonest(1, 1) drawn", x.soonest(1, 1), 1);
        Check.due("soonest(1, 3) drawn", x.soonest(1, 3), 1);
        x.drawTo(0, 1);
        Check.due("soonest(0, 3) where it is", x.soonest(0, 3), 0);
        Check.due("soonest(0, 0) drawn", x.soonest(0, 0), 1);
        Check.due("soonest(2, 0)", x.soonest(2, 0), Check.UNKNOWN);
        Check.due("soonest(-1, 0)", x.soonest(-1, 0), Check.UNKNOWN);
        Check.due("soonest(0, 4)", x.soonest(0, 4), Check.UNKNOWN);
        Check.due("soonest(0, -1)", x.soonest(0, -1), Check.UNKNOWN);
        BathingCourt never = Check.court("b2;h9;c9 1 9 0;");
        Check.due("soonest(0, 0) never", never.soonest(0, 0), Check.NONE);
        // Deep enough but once in twelve hours.
        BathingCourt rare = Check.court("b9,9,9,9,9,9,9,9,9,9,9,0;h1;c9 1 0 0;");
        Check.due("soonest(0, 0) rarely", rare.soonest(0, 0), 11);
        rare.hour(12);
        rare.drawTo(0, 1);
        Check.due("soonest(0, 0) rarely, again", rare.soonest(0, 0), 11);
    }

    private static void offer() {
        BathingCourt x = Check.court("b1;c1 1 0 999;c1 1 0 0;c1 1 0 7;");
        Check.due("offer(0, 100, 999, 0)", x.offer(0, 100, 999, 0), 0);
        Check.due("offer(0, 100, 998, 0)", x.offer(0, 100, 998, 0), 1);
        Check.due("offer(0, 100, 999, 1)", x.offer(0, 100, 999, 1), 1998);
        Check.due("offer(0, 50, 9, 0)", x.offer(0, 50, 9, 0), 490);
        Check.due("offer(0, 50, 9, 1)", x.offer(0, 50, 9, 1), 508);
        Check.due("offer(0, 0, 5, 0)", x.offer(0, 0, 5, 0), 0);
        Check.due("offer(0, 0, 5, 1)", x.offer(0, 0, 5, 1), 5);
        Check.due("offer(2, 99, 0, 0)", x.offer(2, 99, 0, 0), 6);
        Check.due("offer(2, 99, 0, 1)", x.offer(2, 99, 0, 1), 6);
        Check.due("offer(0, -1, 0, 0)", x.offer(0, -1, 0, 0), Check.OUTSIDE);
        Check.due("offer(0, 101, 0, 0)", x.offer(0, 101, 0, 0), Check.OUTSIDE);
        Check.due("offer(0, 0, -1, 0)", x.offer(0, 0, -1, 0), Check.OUTSIDE);
        Check.due("offer(0, 0, 1000, 0)", x.offer(0, 0, 1000, 0), Check.OUTSIDE);
        Check.due("offer(0, 0, 0, -1)", x.offer(0, 0, 0, -1), Check.OUTSIDE);
        Check.due("offer(0, 0, 0, 2)", x.offer(0, 0, 0, 2), Check.OUTSIDE);
        Check.due("offer(3, 0, 0, 2)", x.offer(3, 0, 0, 2), Check.UNKNOWN);
        Check.due("offer(-1, 0, 0, 0)", x.offer(-1, 0, 0, 0), Check.UNKNOWN);
    }

    private static void calm() {
        BathingCourt x = new BathingCourt();
        Check.due("calm(0, 0)", x.calm(0, 0), 1000000000);
        Check.due("calm(60, 0)", x.calm(60, 0), 1000000000);
        Check.due("calm(1, 100)", x.calm(1, 100), 0);
        Check.due("calm(1, 1)", x.calm(1, 1), 990000000);
        Check.due("calm(5, 1)", x.calm(5, 1), 950990049);
        // 0.99 to the 5th is 950990049.9; cut each day the sixth is 941480148.51, and the seventh 932065346.52
        Check.due("calm(6, 1)", x.calm(6, 1), 941480148);
        Check.due("calm(7, 1)", x.calm(7, 1), 932065346);
        // A cut each day tells: 0.1 to the 9th is 1, and a cut of 1 is 0.
        Check.due("calm(9, 90)", x.calm(9, 90), 1);
        Check.due("calm(10, 90)", x.calm(10, 90), 0);
        long odds = 1000000000L;
        for (int i = 0; i < 60; i++) {
            odds = odds * 67 / 100;
        }
        Check.due("calm(60, 33)", x.calm(60, 33), odds);
        Check.due("calm(-1, 0)", x.calm(-1, 0), Check.OUTSIDE);
        Check.due("calm(61, 0)", x.calm(61, 0), Check.OUTSIDE);
        Check.due("calm(0, -1)", x.calm(0, -1), Check.OUTSIDE);
        Check.due("calm(0, 101)", x.calm(0, 101), Check.OUTSIDE);
    }

    private static void nothingChanges() {
        BathingCourt x = Check.court(TEXT);
        x.bring(0, 0);
        x.hour(1);
        String before = Check.seen(x);
        x.open(1);
        x.plan(2, 1);
        x.dry(3);
        x.stays(3, 3);
        x.spot(3);
        x.soonest(0, 1);
        x.offer(0, 50, 50, 1);
        x.calm(5, 5);
        x.bears();
        x.listen();
        x.judge();
        Check.due("all behind what was tried", Check.seen(x), before);
    }
}
