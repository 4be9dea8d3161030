/** Promises 13, 14, 29 to 31, edge by edge: draws, what can be undone, the seed, images. */
final class UndoneEdgesTest {
    private static final int LEAST = Integer.MIN_VALUE, GREATEST = Integer.MAX_VALUE;
    private static final String FULLEST = "b0,3,1;h9;h4;h2;h1;c1 2 9 1;c2 1 9 2;c1 4 1 4;c3 1 0 8;c1 3 0 16;";

    public static void main(String[] args) {
        seedBounds();
        seedWrapsAround();
        drawsByHand();
        drawsOfOne();
        drawsOfHutsOnly();
        drawsWithoutHuts();
        drawsOfWhatCannotBe();
        driftAnswersASet();
        undoOfNothing();
        undoOfEachKind();
        undoKeepsTwenty();
        undoLeavesTheRest();
        undoThenGoOn();
        imagesThereAre();
        imagesNotKept();
        imagesKeepAll();
        imagesKeepTheSeed();
        imagesEndWhatCanBeUndone();
        imagesStayApart();
        imagesLeaveTheRest();
        imagesWithoutABeach();
        upToThe512thCall();
        Check.finish();
    }

    private static long next(long seed) {
        return (seed * 1103515245L + 12345L) % (1L << 31);
    }

    /** "THE SEED becomes v (0 .. 2147483647): what it was. OUTSIDE."; "0 at first" */
    private static void seedBounds() {
        BathingCourt x = new BathingCourt();
        Check.due("seed(0)", x.seed(0), 0);
        Check.due("seed(2147483647)", x.seed(2147483647), 0);
        for (int v : new int[] {-1, -2, LEAST, LEAST + 1}) {
            Check.due("seed(" + v + ")", x.seed(v), Check.OUTSIDE);
        }
        Check.due("seed(1)", x.seed(1), 2147483647);
        Check.due("seed(2)", x.seed(2), 1);
    }

    /** "it becomes it times 1103515245 and 12345, left over by 2 to the 31" */
    private static void seedWrapsAround() {
        for (int first : new int[] {0, 1, 2, 65535, 65536, 1073741824, 2147483646, 2147483647}) {
            BathingCourt x = Check.court("b9;h9;");
            x.seed(first);
            x.drift(1);
            long want = next(next(first));
            Check.due("the seed from " + first + ", two draws on", x.seed(0), want);
            Check.due("hut(0, 1) from " + first, x.hut(0, 1), want / 65536 % 10);
        }
        BathingCourt x = Check.court(FULLEST);
        x.seed(2147483647);
        long want = 2147483647;
        for (int i = 0; i < 180; i++) {
            want = next(want);
        }
        x.drift(60);
        Check.due("the seed 180 draws on", x.seed(0), want);
    }

    /** "n HOURS: ahead of each, if there are HUTS, a DRAW of HUTS, of 10 ..; if there are CASES, too, a DRAW of CASES" */
    private static void drawsByHand() {
        for (int huts = 1; huts <= 4; huts++) {
            for (int cases = 0; cases <= 5; cases++) {
                String text = "b0,3,1;" + "h3;".repeat(huts) + "c1 2 3 7;".repeat(cases);
                for (int first = 0; first < 40; first++) {
                    BathingCourt x = Check.court(text);
                    x.seed(first);
                    BathingCourt byHand = Check.court(text);
                    long seed = first;
                    for (int i = 0; i < 15; i++) {
                        seed = hourByHand(byHand, seed, huts, cases);
                    }
                    String where = " of " + huts + ", " + cases + ", " + first;
                    Check.due("drift(15)" + where, x.drift(15), byHand.told(6));
                    Check.due("the day" + where, Check.day(x), Check.day(byHand));
                    Check.due("the seed" + where, x.seed(0), seed);
                }
            }
        }
    }

    private static long hourByHand(BathingCourt court, long before, int huts, int cases) {
        long seed = next(before);
        int h = (int) (seed / 65536 % huts);
        seed = next(seed);
        court.drawTo(h, (int) (seed / 65536 % 10));
        if (cases > 0) {
            seed = next(seed);
            court.bring((int) (seed / 65536 % cases), h);
        }
        court.hour(1);
        return seed;
    }

    /** A DRAW of one is a DRAW: the seed goes on. */
    private static void drawsOfOne() {
        BathingCourt x = Check.court("b9;h1;c1 1 0 0;");
        x.drift(1);
        Check.due("the seed three draws on", x.seed(0), next(next(next(0))));
    }

    /** "if there are CASES, too": there are such as do not wait, too. */
    private static void drawsOfHutsOnly() {
        BathingCourt none = Check.court("b9;h1;h1;");
        none.drift(2);
        Check.due("no cases: the seed", none.seed(0), next(next(next(next(0)))));
        BathingCourt settled = Check.court("b9;h1;h1;c1 1 0 0;");
        settled.settle(0);
        settled.drift(1);
        Check.due("a settled case: the seed", settled.seed(0), next(next(next(0))));
    }

    /** "if there are HUTS" */
    private static void drawsWithoutHuts() {
        BathingCourt x = Check.court("b0;c1 1 0 0;c1 1 0 0;");
        x.seed(17);
        Check.due("no huts: drift(60)", x.drift(60), 0);
        Check.due("no huts: the seed", x.seed(0), 17);
        Check.due("no huts: told(4)", x.told(4), 60);
        Check.due("no huts: told(5)", x.told(5), 3);
        Check.due("no huts: told(12)", x.told(12), 1);
    }

    /** "it is DRAWN to that CELL, if it can be"; "that one is BROUGHT into it, if it can be" */
    private static void drawsOfWhatCannotBe() {
        for (int first = 0; first < 60; first++) {
            BathingCourt x = Check.court("b0;h9;c9 1 0 0;");
            x.drawTo(0, 4);
            x.seed(first);
            x.drift(1);
            Check.due("drawn this hour: hut(0, 1) from " + first, x.hut(0, 1), 4);
            Check.due("not at the shore: hut(0, 2) from " + first, x.hut(0, 2), Check.NONE);
            BathingCourt slow = Check.court("b0;h1;c9 1 0 0;");
            slow.seed(first);
            slow.drift(1);
            int to = (int) (next(next(first)) / 65536 % 10);
            Check.due("too far: hut(0, 1) from " + first, slow.hut(0, 1), to == 1 ? 1 : 0);
            Check.due("at the shore: hut(0, 2) from " + first, slow.hut(0, 2), to == 1 ? Check.NONE : 0);
            BathingCourt held = Check.court("b0;h1;c9 1 0 0;c9 1 0 0;");
            held.bring(1, 0);
            held.seed(first);
            held.drift(1);
            Check.due("not empty: hut(0, 2) from " + first, held.hut(0, 2), 1);
            Check.due("not empty: told(5) from " + first, held.told(5), 1);
            BathingCourt settled = Check.court("b0;h1;c9 1 0 0;");
            settled.settle(0);
            settled.seed(first);
            settled.drift(1);
            Check.due("it does not wait: hut(0, 2) from " + first, settled.hut(0, 2), Check.NONE);
        }
    }

    /** "n HOURS (1 .. 60) BY DRAWS: JUDGED (a SET)": those too that were JUDGED ahead of it. */
    private static void driftAnswersASet() {
        BathingCourt x = Check.court("b0;h1;c9 1 0 1;c1 1 0 1;c9 1 0 1;");
        x.bring(1, 0);
        x.hour(1);
        x.settle(2);
        Check.due("drift(1)", x.drift(1), 2);
        BathingCourt all = Check.court("b0;h9;c1 1 9 1;c1 1 9 1;c1 1 9 1;c1 1 9 1;c1 1 9 1;");
        for (int i = 0; i < 30; i++) {
            all.drift(60);
        }
        Check.due("drift(60), all judged", all.drift(60), 31);
    }

    /** "The latest is undone: how many more can be. NOT: none." */
    private static void undoOfNothing() {
        Check.due("no beach: undo()", new BathingCourt().undo(), Check.NOT);
        BathingCourt x = Check.court(FULLEST);
        Check.due("undo() at first", x.undo(), Check.NOT);
        x.feed(' ');
        x.shout(1, true);
        x.write(0, 0);
        x.tear();
        x.seed(3);
        x.open(0);
        x.plan(1, -1);
        Check.due("told(12) behind other calls", x.told(12), 0);
        Check.due("undo() behind other calls", x.undo(), Check.NOT);
        Check.due("bring(5, 0)", x.bring(5, 0), Check.UNKNOWN);
        Check.due("drawTo(0, 0)", x.drawTo(0, 0), Check.NOT);
        Check.due("drawTo(0, 10)", x.drawTo(0, 10), Check.OUTSIDE);
        Check.due("settle(5)", x.settle(5), Check.UNKNOWN);
        Check.due("hour(0)", x.hour(0), Check.OUTSIDE);
        Check.due("drift(61)", x.drift(61), Check.OUTSIDE);
        Check.due("told(12) behind what was refused", x.told(12), 0);
        x.hour(1);
        Check.due("undo() of one", x.undo(), 0);
        Check.due("undo() of none again", x.undo(), Check.NOT);
    }

    /** "the latest of hour(), bring(), drawTo(), settle(), drift() that was not refused": "all of section 2 is as ahead of it" */
    private static void undoOfEachKind() {
        BathingCourt x = Check.court(FULLEST);
        // A twin is looked at on the way there, so that each keeps to its 512 calls.
        BathingCourt twin = Check.court(FULLEST);
        String[] before = new String[9];
        for (int i = 0; i < 9; i++) {
            before[i] = Check.day(twin);
            doOne(twin, i);
            doOne(x, i);
            Check.due("told(12) behind " + i, x.told(12), i + 1);
        }
        for (int i = 8; i >= 0; i--) {
            Check.due("undo() of " + i, x.undo(), i);
            Check.due("the day behind undo() of " + i, Check.day(x), before[i]);
        }
    }

    /** The fifth case is told for an hour, the fourth hut is drawn, so that the last of each row is seen. */
    private static void doOne(BathingCourt x, int i) {
        switch (i) {
            case 0 -> Check.due("bring(4, 3)", x.bring(4, 3), 15);
            case 1 -> Check.due("hour(1)", x.hour(1), 1);
            case 2 -> Check.due("drawTo(3, 1)", x.drawTo(3, 1), 0);
            case 3 -> Check.due("hour(1), too shallow", x.hour(1), 2);
            case 4 -> Check.due("settle(4)", x.settle(4), 16);
            case 5 -> Check.due("bring(0, 0)", x.bring(0, 0), 14);
            case 6 -> Check.due("settle(0), in a hut", x.settle(0), 1);
            case 7 -> Check.due("drift(60)", x.drift(60) & ~31, 0);
            default -> Check.due("hour(60)", x.hour(60), 122);
        }
    }

    /** "(20 at most are kept, the oldest are lost)" */
    private static void undoKeepsTwenty() {
        for (int many : new int[] {19, 20, 21, 39, 40, 41, 45}) {
            BathingCourt x = Check.court("b0;");
            for (int i = 1; i <= many; i++) {
                x.hour(i);
                Check.due("told(12) behind " + i, x.told(12), Math.min(20, i));
            }
            int last = Math.max(0, many - 20);
            for (int i = many - 1; i >= last; i--) {
                Check.due("undo() of " + many, x.undo(), i - last);
                Check.due("told(4) of " + many, x.told(4), i * (i + 1) / 2);
                Check.due("told(12) of " + many, x.told(12), i - last);
            }
            Check.due("undo() of what is lost", x.undo(), Check.NOT);
            Check.due("told(4) behind that", x.told(4), last * (last + 1) / 2);
        }
    }

    /** "THE SEED stays", and all that is not of section 2. */
    private static void undoLeavesTheRest() {
        BathingCourt x = Check.court(FULLEST);
        x.seed(5);
        x.drift(4);
        x.shout(3, true);
        x.write(1, 4);
        Check.feed(x, "b1;x");
        x.beach();
        Check.feed(x, "b1;");
        long seed = 5;
        for (int i = 0; i < 12; i++) {
            seed = next(seed);
        }
        Check.due("undo() of drift(4)", x.undo(), 0);
        Check.due("told(4)", x.told(4), 0);
        Check.due("told(3)", x.told(3), 3);
        Check.due("told(10)", x.told(10), 1);
        Check.due("told(11)", x.told(11), 1);
        Check.due("bears()", x.bears(), 7);
        Check.due("fault()", x.fault(), 3);
        Check.due("the seed, as it was drawn", x.seed(0), seed);
        // A seed that was set behind what is undone stays, too.
        x.hour(1);
        x.seed(8);
        x.undo();
        Check.due("the seed, as it was set", x.seed(0), 8);
    }

    /** What comes behind an undo is kept in its place. */
    private static void undoThenGoOn() {
        BathingCourt x = Check.court("b0;");
        for (int i = 0; i < 25; i++) {
            x.hour(1);
        }
        for (int i = 0; i < 5; i++) {
            x.undo();
        }
        Check.due("told(4)", x.told(4), 20);
        Check.due("hour(60)", x.hour(60), 80);
        Check.due("told(12)", x.told(12), 16);
        Check.due("undo()", x.undo(), 15);
        Check.due("told(4)", x.told(4), 20);
        for (int i = 14; i >= 0; i--) {
            Check.due("undo()", x.undo(), i);
            Check.due("told(4)", x.told(4), 5 + i);
        }
        Check.due("undo()", x.undo(), Check.NOT);
    }

    /** "IMAGES 0, 1"; "UNKNOWN" */
    private static void imagesThereAre() {
        for (int i : new int[] {LEAST, -2, -1, 2, 3, GREATEST}) {
            BathingCourt x = Check.court(FULLEST);
            x.hour(1);
            Check.due("keep(" + i + ")", x.keep(i), Check.UNKNOWN);
            Check.due("goBack(" + i + ")", x.goBack(i), Check.UNKNOWN);
            Check.due("told(12)", x.told(12), 1);
        }
        BathingCourt x = Check.court(FULLEST);
        Check.due("keep(0)", x.keep(0), 1);
        Check.due("keep(1)", x.keep(1), 1);
        Check.due("goBack(0)", x.goBack(0), 1);
        Check.due("goBack(1)", x.goBack(1), 1);
    }

    /** "NOT: it was not kept." */
    private static void imagesNotKept() {
        BathingCourt x = Check.court(FULLEST);
        x.hour(2);
        Check.due("goBack(0)", x.goBack(0), Check.NOT);
        Check.due("goBack(1)", x.goBack(1), Check.NOT);
        Check.due("told(4)", x.told(4), 2);
        Check.due("told(12), what can be undone stays", x.told(12), 1);
        x.keep(1);
        Check.due("goBack(0), the other one was kept", x.goBack(0), Check.NOT);
        Check.due("goBack(1)", x.goBack(1), 1);
        Check.feed(x, "x");
        x.beach();
        Check.due("goBack(1) behind a fault", x.goBack(1), 1);
        Check.feed(x, FULLEST);
        x.beach();
        Check.due("goBack(1) behind a beach", x.goBack(1), Check.NOT);
        x.keep(0);
        x.beach();
        Check.due("goBack(0) behind no beach", x.goBack(0), Check.NOT);
    }

    /** "IMAGES 0, 1 keep all of section 2" */
    private static void imagesKeepAll() {
        for (int first = 0; first < 2; first++) {
            BathingCourt x = Check.court(FULLEST);
            x.bring(4, 3);
            x.bring(0, 1);
            x.hour(1);
            x.drawTo(3, 1);
            x.drawTo(1, 4);
            String one = Check.day(x);
            x.keep(first);
            x.settle(4);
            x.hour(7);
            x.drawTo(0, 9);
            x.bring(3, 2);
            String two = Check.day(x);
            x.keep(1 - first);
            x.drift(20);
            x.goBack(first);
            Check.due("the day of image " + first, Check.day(x), one);
            x.hour(3);
            x.goBack(1 - first);
            Check.due("the day of image " + (1 - first), Check.day(x), two);
            x.goBack(first);
            Check.due("the day of image " + first + " once more", Check.day(x), one);
        }
    }

    /** "THE SEED" */
    private static void imagesKeepTheSeed() {
        BathingCourt x = Check.court(FULLEST);
        x.seed(2147483647);
        x.keep(0);
        x.seed(6);
        x.keep(1);
        x.drift(1);
        x.goBack(0);
        Check.due("the seed of image 0", x.seed(1), 2147483647);
        x.goBack(1);
        Check.due("the seed of image 1", x.seed(1), 6);
        x.goBack(0);
        x.drift(5);
        String then = Check.day(x);
        x.goBack(0);
        x.drift(5);
        Check.due("the same days from the same image", Check.day(x), then);
    }

    /** "(nothing can be undone then)", of keep and of goBack */
    private static void imagesEndWhatCanBeUndone() {
        BathingCourt x = Check.court(FULLEST);
        for (int i = 0; i < 25; i++) {
            x.hour(1);
        }
        x.keep(0);
        Check.due("told(12) behind keep()", x.told(12), 0);
        Check.due("undo() behind keep()", x.undo(), Check.NOT);
        Check.due("told(4) behind keep()", x.told(4), 25);
        x.hour(1);
        x.hour(1);
        Check.due("told(12)", x.told(12), 2);
        x.goBack(0);
        Check.due("told(12) behind goBack()", x.told(12), 0);
        Check.due("undo() behind goBack()", x.undo(), Check.NOT);
        Check.due("told(4) behind goBack()", x.told(4), 25);
        x.hour(1);
        Check.due("undo() of what came then", x.undo(), 0);
    }

    /** "IMAGE i becomes what is so": what is done later does not change it, and one does not change the other. */
    private static void imagesStayApart() {
        BathingCourt x = Check.court("b0;");
        x.hour(1);
        x.keep(0);
        x.hour(1);
        x.keep(1);
        x.goBack(0);
        x.hour(5);
        x.keep(0);
        x.goBack(1);
        Check.due("told(4) of image 1", x.told(4), 2);
        x.goBack(0);
        Check.due("told(4) of image 0, kept again", x.told(4), 6);
    }

    /** Shouts, the book, the text, the latest fault are not of section 2. */
    private static void imagesLeaveTheRest() {
        BathingCourt x = Check.court(FULLEST);
        x.shout(5, true);
        x.keep(0);
        x.shout(3, true);
        x.write(0, 1);
        Check.feed(x, "bx");
        x.beach();
        Check.feed(x, "b1");
        x.goBack(0);
        Check.due("told(10)", x.told(10), 2);
        Check.due("bears()", x.bears(), 7);
        Check.due("told(11)", x.told(11), 1);
        Check.due("told(3)", x.told(3), 2);
        Check.due("fault()", x.fault(), 1);
    }

    /** keep() names no refusal but UNKNOWN: without a beach the seed is kept. */
    private static void imagesWithoutABeach() {
        BathingCourt x = new BathingCourt();
        x.seed(4);
        Check.due("no beach: keep(0)", x.keep(0), 1);
        Check.due("no beach: goBack(1)", x.goBack(1), Check.NOT);
        x.seed(5);
        Check.due("no beach: goBack(0)", x.goBack(0), 1);
        Check.due("no beach: the seed", x.seed(0), 4);
        Check.due("no beach: told(0)", x.told(0), 0);
    }

    /** "An object is used for at most 512 calls after it has been made": the 512th is answered like the first. */
    private static void upToThe512thCall() {
        BathingCourt x = Check.court("b0;");
        int calls = 4;
        for (int i = 1; i <= 168; i++) {
            Check.due("hour(1)", x.hour(1), 2 * i - 1);
            Check.due("drift(1)", x.drift(1), 0);
            Check.due("told(12)", x.told(12), Math.min(20, 2 * i));
            calls += 3;
        }
        Check.due("keep(0)", x.keep(0), 1);
        Check.due("hour(60)", x.hour(60), 396);
        Check.due("goBack(0)", x.goBack(0), 1);
        Check.due("the 512th call: hour(60)", x.hour(60), 396);
        Check.due("calls", calls + 4, 512);
    }
}
