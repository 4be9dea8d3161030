/** Promises 1 to 5: a new object, the text, its faults, what is told. */
final class TextTest {
    private static final String GOOD = "b2,4,6,5,3;h3;h9;c2 2 1 500;c4 1 0 90;c1 3 2 0;c9 1 9 1;";

    public static void main(String[] args) {
        newObject();
        feeding();
        goodTexts();
        faultsOfPlace();
        faultsOfNumbers();
        faultsOfCount();
        whatABeachBegins();
        whatAFaultLeaves();
        emptyTexts();
        told();
        Check.finish();
    }

    private static void newObject() {
        BathingCourt x = new BathingCourt();
        for (int what = 0; what <= 12; what++) {
            Check.due("new: told(" + what + ")", x.told(what), 0);
        }
        Check.due("new: fault()", x.fault(), Check.NONE);
        Check.due("new: hut(0, 0)", x.hut(0, 0), Check.UNKNOWN);
        Check.due("new: legal(0, 0)", x.legal(0, 0), Check.UNKNOWN);
        Check.due("new: depth(0, 0)", x.depth(0, 0), Check.NOT);
        Check.due("new: goBack(0)", x.goBack(0), Check.NOT);
        Check.due("new: seed(7)", x.seed(7), 0);
    }

    private static void feeding() {
        BathingCourt x = new BathingCourt();
        Check.due("feed(-1)", x.feed(-1), Check.OUTSIDE);
        Check.due("feed(256)", x.feed(256), Check.OUTSIDE);
        Check.due("feed(least)", x.feed(Integer.MIN_VALUE), Check.OUTSIDE);
        Check.due("told(3)", x.told(3), 0);
        Check.due("feed(0)", x.feed(0), 1);
        Check.due("feed(255)", x.feed(255), 2);
        for (int i = 3; i <= 240; i++) {
            Check.due("feed(32), the letter " + i, x.feed(32), i);
        }
        Check.due("feed(32), the 241st", x.feed(32), Check.FULL);
        Check.due("feed(256), the 241st", x.feed(256), Check.OUTSIDE);
        Check.due("told(3)", x.told(3), 240);
        Check.due("beach() of a letter 0", x.beach(), -11);
        Check.due("fault()", x.fault(), 0);
        Check.due("told(3) behind beach()", x.told(3), 0);
        Check.due("feed(32) again", x.feed(32), 1);
    }

    private static void goodTexts() {
        good("b0;", 0);
        good("b9;", 0);
        good("b009;", 0);
        good(" b 1 , 2 ; h 9 ; c 1  1 0 0 ; ", 1);
        good("b1,2,3,4,5,6,7,8,9,0,1,2;", 0);
        good("b1;c9 4 9 999;c001 001 000 000;", 2);
        good("b1;c1 1 0 0;c1 1 0 0;c1 1 0 0;c1 1 0 0;c1 1 0 0;h1;h1;h1;h1;", 5);
        good(GOOD, 4);
        StringBuilder longest = new StringBuilder("b1;");
        while (longest.length() < 235) {
            longest.append(' ');
        }
        good(longest.append("h1;  ").toString(), 0);
    }

    private static void faultsOfPlace() {
        bad("h1;", 1, 0);
        bad("c1 1 0 0;b1;", 1, 0);
        bad("  h1;", 1, 2);
        bad("1", 1, 0);
        bad(";", 1, 0);
        bad("B1;", 1, 0);
        bad("b", 1, 1);
        bad("b;", 1, 1);
        bad("b,1;", 1, 1);
        bad("bb", 1, 1);
        bad("b1", 1, 2);
        bad("b1  ", 1, 4);
        bad("b1 2;", 1, 3);
        bad("b1 2000;", 1, 3);
        bad("b1,;", 1, 3);
        bad("b1,,2;", 1, 3);
        bad("b1,", 1, 3);
        bad("b-1;", 1, 1);
        bad("b1;;", 1, 3);
        bad("b1;3;", 1, 3);
        bad("b1;\t", 1, 3);
        bad("b1;x", 1, 3);
        bad("b1;h", 1, 4);
        bad("b1;hb", 1, 4);
        bad("b1;h1,2;", 1, 5);
        bad("b1;h1h1;", 1, 5);
        bad("b1;c1 1 0;", 1, 9);
        bad("b1;c1 1 0 0 0;", 1, 12);
        bad("b1;c1,1 0 0;", 1, 5);
        bad("b1;c", 1, 4);
        bad("b1;c1 1 0 0", 1, 11);
        bad("b1;c1 1c", 1, 7);
        bad("b1,2,3,4,5,6,7,8,9,0,1,2,3;", 1, 24);
        bad("b1,2,3,4,5,6,7,8,9,0,1,2 , 33;", 1, 25);
        bad("b1,2,3,4,5,6,7,8,9,0,1,2,", 1, 24);
        StringBuilder full = new StringBuilder("b1;h1");
        while (full.length() < 240) {
            full.append(' ');
        }
        bad(full.toString(), 1, 240);
    }

    private static void faultsOfNumbers() {
        bad("b10;", 2, 1);
        bad("b1,2,10;", 2, 5);
        bad("b0000;", 2, 1);
        bad("b0001", 2, 1);
        bad("b 99999999999999999999;", 2, 2);
        bad("b10x", 2, 1);
        bad("b1;h0;", 2, 4);
        bad("b1;h10;", 2, 4);
        bad("b1;h1000;", 2, 4);
        bad("b1;h000", 2, 4);
        bad("b1;c0 1 0 0;", 2, 4);
        bad("b1;c10 1 0 0;", 2, 4);
        bad("b1;c1 0 0 0;", 2, 6);
        bad("b1;c1 5 0 0;", 2, 6);
        bad("b1;c1 4 10 0;", 2, 8);
        bad("b1;c1 4 9 1000;", 2, 10);
        bad("b1;c1 4 9 0999;", 2, 10);
        bad("b1;c1100;", 2, 4);
        bad("b1;c110 0;", 2, 4);
    }

    private static void faultsOfCount() {
        bad("b1;b", 3, 3);
        bad("b1; b2;", 3, 4);
        bad("b1;h1;b0000;", 3, 6);
        bad("b1;h1;h1;h1;h1;h", 3, 15);
        bad("b1;h1;h1;h1;h1;h0;", 3, 15);
        bad("b1;c1 1 0 0;c1 1 0 0;c1 1 0 0;c1 1 0 0;c1 1 0 0;c", 3, 48);
    }

    private static void whatABeachBegins() {
        BathingCourt x = Check.court(GOOD);
        x.bring(0, 0);
        x.drawTo(0, 3);
        x.hour(2);
        x.settle(3);
        x.shout(3, true);
        x.write(0, 4);
        x.seed(77);
        x.keep(0);
        x.keep(1);
        x.hour(1);
        x.drawTo(0, 6);
        x.bring(2, 1);
        x.drawTo(1, 9);
        Check.feed(x, GOOD);
        Check.due("beach() anew", x.beach(), 4);
        Check.due("goBack(0) behind beach()", x.goBack(0), Check.NOT);
        Check.due("goBack(1) behind beach()", x.goBack(1), Check.NOT);
        Check.due("the seed behind beach()", x.seed(0), 77);
        Check.due("undo() behind beach()", x.undo(), Check.NOT);
        Check.due("all behind beach()", Check.seen(x), Check.seen(Check.court(GOOD)));
    }

    private static void whatAFaultLeaves() {
        BathingCourt x = Check.court(GOOD);
        x.bring(0, 0);
        x.keep(1);
        x.hour(1);
        x.shout(3, true);
        x.write(0, 4);
        String before = Check.seen(x);
        Check.feed(x, "b1;h1;c1 1 0 0;x");
        Check.due("beach() with a fault", x.beach(), -11);
        Check.due("fault()", x.fault(), 15);
        Check.due("told(3) behind a fault", x.told(3), 0);
        Check.feed(x, "b1;c1");
        Check.due("beach() with a fault again", x.beach(), -11);
        Check.due("fault()", x.fault(), 5);
        Check.due("all but the fault", Check.seen(x), before);
        Check.due("undo()", x.undo(), 0);
        Check.due("goBack(1)", x.goBack(1), 1);
        Check.feed(x, "b1;");
        Check.due("beach() without one", x.beach(), 0);
        Check.due("fault() of the latest", x.fault(), Check.NONE);
    }

    private static void emptyTexts() {
        for (String text : new String[] {"", " ", "     "}) {
            BathingCourt x = Check.court(GOOD);
            x.seed(9);
            x.hour(1);
            x.keep(0);
            x.shout(1, true);
            x.write(0, 0);
            x.hour(1);
            Check.feed(x, text);
            Check.due("beach() of blanks", x.beach(), 0);
            Check.due("fault()", x.fault(), Check.NONE);
            for (int what = 0; what <= 12; what++) {
                Check.due("no beach: told(" + what + ")", x.told(what), 0);
            }
            Check.due("no beach: depth(0, 0)", x.depth(0, 0), Check.NOT);
            Check.due("no beach: goBack(0)", x.goBack(0), Check.NOT);
            Check.due("no beach: the seed", x.seed(1), 9);
        }
    }

    private static void told() {
        BathingCourt x = Check.court(GOOD);
        Check.feed(x, "b1");
        x.bring(1, 1);
        x.drawTo(1, 5);
        x.hour(1);
        x.settle(3);
        x.drawTo(1, 0);
        x.bring(2, 1);
        x.hour(1);
        x.drawTo(1, 9);
        x.hour(1);
        x.shout(1, true);
        x.shout(9, true);
        x.write(2, 4);
        int[] want = {5, 2, 4, 2, 3, 1, 2, 8, 4, 90, 2, 1, 9};
        for (int what = 0; what <= 12; what++) {
            Check.due("told(" + what + ")", x.told(what), want[what]);
        }
        Check.due("told(-1)", x.told(-1), Check.OUTSIDE);
        Check.due("told(13)", x.told(13), Check.OUTSIDE);
    }

    private static void good(String text, int cases) {
        BathingCourt x = new BathingCourt();
        Check.feed(x, text);
        Check.due("beach() of '" + text + "'", x.beach(), cases);
        Check.due("fault() of '" + text + "'", x.fault(), Check.NONE);
        Check.due("told(2) of '" + text + "'", x.told(2), cases);
    }

    private static void bad(String text, int number, int place) {
        BathingCourt x = new BathingCourt();
        Check.feed(x, text);
        Check.due("beach() of '" + text + "'", x.beach(), -10 - number);
        Check.due("fault() of '" + text + "'", x.fault(), place);
        Check.due("told(0) of '" + text + "'", x.told(0), 0);
    }
}
