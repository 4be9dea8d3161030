/** Promises 29 to 31: the seed and the images. */
final class ImagesTest {
    private static final String TEXT = "b2,4,6,5,3;h3;h9;c2 2 1 500;c4 1 0 90;c1 3 2 0;c9 1 9 1;";

    public static void main(String[] args) {
        seed();
        keepAndGoBack();
        whatAnImageDoesNotKeep();
        withoutABeach();
        refusals();
        Check.finish();
    }

    private static void seed() {
        BathingCourt x = new BathingCourt();
        Check.due("seed(5)", x.seed(5), 0);
        Check.due("seed(-1)", x.seed(-1), Check.OUTSIDE);
        Check.due("seed(least)", x.seed(Integer.MIN_VALUE), Check.OUTSIDE);
        Check.due("seed(greatest)", x.seed(Integer.MAX_VALUE), 5);
        Check.due("seed(0)", x.seed(0), Integer.MAX_VALUE);
        BathingCourt greatest = Check.court("b1;h9;");
        greatest.seed(Integer.MAX_VALUE);
        greatest.drift(1);
        long once = (Integer.MAX_VALUE * 1103515245L + 12345L) % 2147483648L;
        Check.due("the seed two draws on", greatest.seed(0), (once * 1103515245L + 12345L) % 2147483648L);
    }

    private static void keepAndGoBack() {
        BathingCourt x = Check.court(TEXT);
        x.seed(11);
        x.bring(0, 0);
        x.drawTo(0, 3);
        Check.due("keep(0)", x.keep(0), 1);
        Check.due("undo() behind keep()", x.undo(), Check.NOT);
        String first = Check.seen(x);
        String firstDay = Check.day(x);
        x.drift(9);
        x.settle(3);
        Check.due("keep(1)", x.keep(1), 1);
        String second = Check.seen(x);
        x.hour(7);
        x.seed(3);
        Check.due("goBack(0)", x.goBack(0), 1);
        Check.due("undo() behind goBack()", x.undo(), Check.NOT);
        Check.due("all of image 0", Check.seen(x), first);
        Check.due("goBack(1)", x.goBack(1), 1);
        Check.due("all of image 1", Check.seen(x), second);
        x.hour(1);
        Check.due("goBack(0) again", x.goBack(0), 1);
        Check.due("the day of image 0 again", Check.day(x), firstDay);
        Check.due("keep(1) over it", x.keep(1), 1);
        x.hour(1);
        Check.due("goBack(1) again", x.goBack(1), 1);
        Check.due("the day of image 1, now as 0", Check.day(x), firstDay);
    }

    private static void whatAnImageDoesNotKeep() {
        BathingCourt x = Check.court(TEXT);
        x.keep(0);
        x.shout(3, true);
        x.write(0, 1);
        Check.feed(x, "b1");
        x.goBack(0);
        Check.due("told(10)", x.told(10), 1);
        Check.due("told(11)", x.told(11), 1);
        Check.due("told(3)", x.told(3), 2);
    }

    private static void withoutABeach() {
        BathingCourt x = new BathingCourt();
        x.seed(4);
        Check.due("no beach: keep(1)", x.keep(1), 1);
        x.seed(5);
        Check.due("no beach: goBack(1)", x.goBack(1), 1);
        Check.due("no beach: the seed", x.seed(0), 4);
        Check.feed(x, TEXT);
        x.beach();
        Check.due("goBack(1) of a beach that is gone", x.goBack(1), Check.NOT);
    }

    private static void refusals() {
        BathingCourt x = Check.court(TEXT);
        x.hour(1);
        for (int i : new int[] {-1, 2, Integer.MIN_VALUE, Integer.MAX_VALUE}) {
            Check.due("keep(" + i + ")", x.keep(i), Check.UNKNOWN);
            Check.due("goBack(" + i + ")", x.goBack(i), Check.UNKNOWN);
        }
        Check.due("goBack(0) not kept", x.goBack(0), Check.NOT);
        Check.due("refused: told(12)", x.told(12), 1);
        x.keep(0);
        Check.due("goBack(1) not kept", x.goBack(1), Check.NOT);
    }
}
