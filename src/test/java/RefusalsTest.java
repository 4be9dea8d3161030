import java.util.function.Supplier;
import java.util.function.ToIntFunction;

/**
 * "REFUSALS, of several the first in this order: UNKNOWN .., OUTSIDE .., NOT .., FULL."; "What is refused changes
 * nothing."; "TRIED from now; nothing changes by it.". For each refusal that a promise names, a court that was refused
 * (or asked) is set beside a twin that was not: what can be undone, the images, the letters of the text are the same.
 */
final class RefusalsTest {
    private static final int[] NO_IMAGES = {Integer.MIN_VALUE, -1, 2, Integer.MAX_VALUE};
    private static final int[] NO_CASES = {Integer.MIN_VALUE, -1, 5, Integer.MAX_VALUE};
    private static final int[] NO_HUTS = {Integer.MIN_VALUE, -1, 4, Integer.MAX_VALUE};

    public static void main(String[] args) {
        twinsAreTold();
        ofTheText();
        ofWhatIsAsked();
        ofHours();
        ofBring();
        ofDrawTo();
        ofSettle();
        ofUndo();
        ofWhatIsTried();
        ofShouts();
        ofTheBook();
        ofTheSeed();
        ofImages();
        ofAnyNumbers();
        nothingChangesByWhatIsTried();
        Check.finish();
    }

    /** Each case c is in state c, with something undone, shouted, written, kept, fed, and a fault. */
    private static BathingCourt rich() {
        BathingCourt x = Check.court("b0,9;h9;h3;h9;h9;c9 1 0 10;c9 1 0 20;c1 1 0 30;c9 1 0 40;c1 1 0 50;");
        x.seed(321);
        x.bring(1, 1);
        x.keep(0);
        x.bring(2, 0);
        x.bring(4, 2);
        x.drawTo(2, 1);
        x.settle(3);
        x.hour(1);
        x.drawTo(3, 5);
        x.shout(7, true);
        x.shout(2, false);
        x.write(0, 0);
        x.write(1, 2);
        Check.feed(x, "b1;x");
        x.beach();
        Check.feed(x, "b2;h4;c1 2 3 4");
        return x;
    }

    private static BathingCourt noBeach() {
        BathingCourt x = new BathingCourt();
        x.seed(321);
        x.keep(1);
        x.seed(5);
        x.shout(7, true);
        Check.feed(x, "b");
        x.beach();
        Check.feed(x, "b2;h4");
        return x;
    }

    private static BathingCourt late() {
        BathingCourt x = Check.court("b0,5;h9;c1 1 9 7;");
        for (int i = 0; i < 150; i++) {
            x.hour(60);
        }
        x.bring(0, 0);
        x.hour(1);
        x.seed(3);
        return x;
    }

    private static BathingCourt fullText() {
        BathingCourt x = Check.court("b0;h9;");
        x.hour(1);
        Check.feed(x, Check.stretched("b2,3;h4;", 5, 240));
        return x;
    }

    private static BathingCourt fullShouts() {
        BathingCourt x = rich();
        for (int i = 0; i < 4; i++) {
            x.shout(6, true);
        }
        return x;
    }

    private static BathingCourt fullBook() {
        BathingCourt x = rich();
        for (int i = 0; i < 13; i++) {
            x.write(0, 0);
        }
        return x;
    }

    /** So that a twin's likeness says something: each thing that is held is seen by Check.held. */
    private static void twinsAreTold() {
        String rich = Check.held(rich());
        differs("hour(1)", rich, x -> x.hour(1));
        differs("hour(1), undone", rich, x -> x.hour(1) + x.undo() + x.drawTo(0, 1));
        differs("undo()", rich, x -> x.undo());
        differs("seed(1)", rich, x -> x.seed(1));
        differs("shout(6, true)", rich, x -> x.shout(6, true));
        differs("write(0, 0)", rich, x -> x.write(0, 0));
        differs("feed(32)", rich, x -> x.feed(32));
        differs("keep(1)", rich, x -> x.keep(1));
        differs("goBack(0)", rich, x -> x.goBack(0));
        differs("beach()", rich, x -> x.beach());
        differs("tear()", rich, x -> x.tear());
        Check.due("the same twice", Check.held(rich()), rich);
    }

    private static void differs(String call, String before, ToIntFunction<BathingCourt> done) {
        BathingCourt x = rich();
        done.applyAsInt(x);
        Check.due(call + " is seen", Check.held(x).equals(before) ? 1 : 0, 0);
    }

    private static void ofTheText() {
        for (int letter : new int[] {Integer.MIN_VALUE, -1, 256, Integer.MAX_VALUE}) {
            refused("feed(" + letter + ")", RefusalsTest::rich, x -> x.feed(letter), Check.OUTSIDE);
            refused("full: feed(" + letter + ")", RefusalsTest::fullText, x -> x.feed(letter), Check.OUTSIDE);
        }
        for (int letter : new int[] {0, ' ', ';', 255}) {
            refused("full: feed(" + letter + ")", RefusalsTest::fullText, x -> x.feed(letter), Check.FULL);
        }
    }

    private static void ofWhatIsAsked() {
        for (int what : new int[] {-1, 13}) {
            refused("told(" + what + ")", RefusalsTest::rich, x -> x.told(what), Check.OUTSIDE);
        }
        refused("depth(10, 0)", RefusalsTest::rich, x -> x.depth(10, 0), Check.OUTSIDE);
        refused("depth(0, 100)", RefusalsTest::rich, x -> x.depth(0, 100), Check.OUTSIDE);
        refused("no beach: depth(10, 0)", RefusalsTest::noBeach, x -> x.depth(10, 0), Check.OUTSIDE);
        refused("no beach: depth(0, 100)", RefusalsTest::noBeach, x -> x.depth(0, 100), Check.OUTSIDE);
        refused("no beach: depth(9, 99)", RefusalsTest::noBeach, x -> x.depth(9, 99), Check.NOT);
        for (int h : NO_HUTS) {
            refused("hut(" + h + ", 0)", RefusalsTest::rich, x -> x.hut(h, 0), Check.UNKNOWN);
            refused("hut(" + h + ", 4)", RefusalsTest::rich, x -> x.hut(h, 4), Check.UNKNOWN);
        }
        refused("hut(3, -1)", RefusalsTest::rich, x -> x.hut(3, -1), Check.OUTSIDE);
        refused("hut(3, 4)", RefusalsTest::rich, x -> x.hut(3, 4), Check.OUTSIDE);
        for (int c : NO_CASES) {
            refused("legal(" + c + ", 0)", RefusalsTest::rich, x -> x.legal(c, 0), Check.UNKNOWN);
            refused("legal(" + c + ", 6)", RefusalsTest::rich, x -> x.legal(c, 6), Check.UNKNOWN);
        }
        refused("legal(4, -1)", RefusalsTest::rich, x -> x.legal(4, -1), Check.OUTSIDE);
        refused("legal(4, 6)", RefusalsTest::rich, x -> x.legal(4, 6), Check.OUTSIDE);
    }

    private static void ofHours() {
        for (int n : new int[] {Integer.MIN_VALUE, -1, 0, 61, Integer.MAX_VALUE}) {
            refused("hour(" + n + ")", RefusalsTest::rich, x -> x.hour(n), Check.OUTSIDE);
            refused("drift(" + n + ")", RefusalsTest::rich, x -> x.drift(n), Check.OUTSIDE);
            refused("no beach: hour(" + n + ")", RefusalsTest::noBeach, x -> x.hour(n), Check.OUTSIDE);
            refused("no beach: drift(" + n + ")", RefusalsTest::noBeach, x -> x.drift(n), Check.OUTSIDE);
            refused("late: hour(" + n + ")", RefusalsTest::late, x -> x.hour(n), Check.OUTSIDE);
            refused("late: drift(" + n + ")", RefusalsTest::late, x -> x.drift(n), Check.OUTSIDE);
        }
        for (int n : new int[] {1, 60}) {
            refused("no beach: hour(" + n + ")", RefusalsTest::noBeach, x -> x.hour(n), Check.NOT);
            refused("no beach: drift(" + n + ")", RefusalsTest::noBeach, x -> x.drift(n), Check.NOT);
            refused("late: hour(" + n + ")", RefusalsTest::late, x -> x.hour(n), Check.FULL);
            refused("late: drift(" + n + ")", RefusalsTest::late, x -> x.drift(n), Check.FULL);
        }
    }

    private static void ofBring() {
        for (int c : NO_CASES) {
            refused("bring(" + c + ", 0)", RefusalsTest::rich, x -> x.bring(c, 0), Check.UNKNOWN);
            refused("bring(" + c + ", 1), not empty", RefusalsTest::rich, x -> x.bring(c, 1), Check.UNKNOWN);
        }
        for (int h : NO_HUTS) {
            refused("bring(0, " + h + ")", RefusalsTest::rich, x -> x.bring(0, h), Check.UNKNOWN);
            refused("bring(3, " + h + "), settled", RefusalsTest::rich, x -> x.bring(3, h), Check.UNKNOWN);
        }
        refused("bring(5, 4)", RefusalsTest::rich, x -> x.bring(5, 4), Check.UNKNOWN);
        for (int c = 1; c <= 4; c++) {
            int one = c;
            refused("bring(" + c + ", 0), it does not wait", RefusalsTest::rich, x -> x.bring(one, 0), Check.NOT);
        }
        refused("bring(0, 1), not empty", RefusalsTest::rich, x -> x.bring(0, 1), Check.NOT);
        refused("bring(0, 2), not at the shore", RefusalsTest::rich, x -> x.bring(0, 2), Check.NOT);
        refused("bring(0, 3), not at the shore", RefusalsTest::rich, x -> x.bring(0, 3), Check.NOT);
        refused("no beach: bring(0, 0)", RefusalsTest::noBeach, x -> x.bring(0, 0), Check.UNKNOWN);
    }

    private static void ofDrawTo() {
        for (int h : NO_HUTS) {
            refused("drawTo(" + h + ", 1)", RefusalsTest::rich, x -> x.drawTo(h, 1), Check.UNKNOWN);
            refused("drawTo(" + h + ", 10)", RefusalsTest::rich, x -> x.drawTo(h, 10), Check.UNKNOWN);
        }
        for (int cell : new int[] {Integer.MIN_VALUE, -1, 10, Integer.MAX_VALUE}) {
            refused("drawTo(0, " + cell + ")", RefusalsTest::rich, x -> x.drawTo(0, cell), Check.OUTSIDE);
            refused("drawTo(3, " + cell + "), drawn", RefusalsTest::rich, x -> x.drawTo(3, cell), Check.OUTSIDE);
        }
        refused("drawTo(3, 4), drawn", RefusalsTest::rich, x -> x.drawTo(3, 4), Check.NOT);
        refused("drawTo(1, 4), too far", RefusalsTest::rich, x -> x.drawTo(1, 4), Check.NOT);
        refused("drawTo(0, 0), it is there", RefusalsTest::rich, x -> x.drawTo(0, 0), Check.NOT);
        refused("no beach: drawTo(0, 10)", RefusalsTest::noBeach, x -> x.drawTo(0, 10), Check.UNKNOWN);
    }

    private static void ofSettle() {
        for (int c : NO_CASES) {
            refused("settle(" + c + ")", RefusalsTest::rich, x -> x.settle(c), Check.UNKNOWN);
        }
        for (int c = 2; c <= 4; c++) {
            int one = c;
            refused("settle(" + c + ")", RefusalsTest::rich, x -> x.settle(one), Check.NOT);
        }
        refused("no beach: settle(0)", RefusalsTest::noBeach, x -> x.settle(0), Check.UNKNOWN);
    }

    private static void ofUndo() {
        refused("no beach: undo()", RefusalsTest::noBeach, BathingCourt::undo, Check.NOT);
        refused("undo() behind keep()", () -> {
            BathingCourt x = rich();
            x.keep(1);
            return x;
        }, BathingCourt::undo, Check.NOT);
        refused("undo() behind all are undone", () -> {
            BathingCourt x = rich();
            for (int i = 0; i < 6; i++) {
                Check.due("undo()", x.undo(), 5 - i);
            }
            return x;
        }, BathingCourt::undo, Check.NOT);
    }

    private static void ofWhatIsTried() {
        for (int c : NO_CASES) {
            refused("open(" + c + ")", RefusalsTest::rich, x -> x.open(c), Check.UNKNOWN);
            refused("soonest(0, " + c + ")", RefusalsTest::rich, x -> x.soonest(0, c), Check.UNKNOWN);
            refused("offer(" + c + ", 0, 0, 0)", RefusalsTest::rich, x -> x.offer(c, 0, 0, 0), Check.UNKNOWN);
            refused("offer(" + c + ", 101, 1000, 2)", RefusalsTest::rich, x -> x.offer(c, 101, 1000, 2), Check.UNKNOWN);
            if (c != Check.NONE) {
                refused("plan(1, " + c + ")", RefusalsTest::rich, x -> x.plan(1, c), Check.UNKNOWN);
                refused("plan(0, " + c + ")", RefusalsTest::rich, x -> x.plan(0, c), Check.UNKNOWN);
            }
        }
        for (int h : NO_HUTS) {
            refused("soonest(" + h + ", 0)", RefusalsTest::rich, x -> x.soonest(h, 0), Check.UNKNOWN);
        }
        for (int m : new int[] {0, 5}) {
            refused("plan(" + m + ", -1)", RefusalsTest::rich, x -> x.plan(m, -1), Check.OUTSIDE);
            refused("plan(" + m + ", 0)", RefusalsTest::rich, x -> x.plan(m, 0), Check.OUTSIDE);
            refused("no beach: plan(" + m + ", -1)", RefusalsTest::noBeach, x -> x.plan(m, -1), Check.OUTSIDE);
            refused("no beach: plan(" + m + ", 0)", RefusalsTest::noBeach, x -> x.plan(m, 0), Check.UNKNOWN);
        }
        refused("offer(0, 101, 0, 0)", RefusalsTest::rich, x -> x.offer(0, 101, 0, 0), Check.OUTSIDE);
        refused("offer(0, 0, 1000, 0)", RefusalsTest::rich, x -> x.offer(0, 0, 1000, 0), Check.OUTSIDE);
        refused("offer(0, 0, 0, 2)", RefusalsTest::rich, x -> x.offer(0, 0, 0, 2), Check.OUTSIDE);
        refused("calm(61, 0)", RefusalsTest::rich, x -> x.calm(61, 0), Check.OUTSIDE);
        refused("calm(0, 101)", RefusalsTest::rich, x -> x.calm(0, 101), Check.OUTSIDE);
        for (int cell : new int[] {-1, 10}) {
            refused("dry(" + cell + ")", RefusalsTest::rich, x -> x.dry(cell), Check.OUTSIDE);
            refused("stays(" + cell + ", 0)", RefusalsTest::rich, x -> x.stays(cell, 0), Check.OUTSIDE);
            refused("no beach: dry(" + cell + ")", RefusalsTest::noBeach, x -> x.dry(cell), Check.OUTSIDE);
            refused("no beach: stays(" + cell + ", 0)", RefusalsTest::noBeach, x -> x.stays(cell, 0), Check.OUTSIDE);
        }
        for (int d : new int[] {-1, 11}) {
            refused("stays(0, " + d + ")", RefusalsTest::rich, x -> x.stays(0, d), Check.OUTSIDE);
            refused("spot(" + d + ")", RefusalsTest::rich, x -> x.spot(d), Check.OUTSIDE);
            refused("no beach: stays(0, " + d + ")", RefusalsTest::noBeach, x -> x.stays(0, d), Check.OUTSIDE);
            refused("no beach: spot(" + d + ")", RefusalsTest::noBeach, x -> x.spot(d), Check.OUTSIDE);
        }
        refused("no beach: dry(0)", RefusalsTest::noBeach, x -> x.dry(0), Check.NOT);
        refused("no beach: stays(0, 0)", RefusalsTest::noBeach, x -> x.stays(0, 0), Check.NOT);
        refused("no beach: spot(0)", RefusalsTest::noBeach, x -> x.spot(0), Check.NOT);
    }

    private static void ofShouts() {
        for (int depth : new int[] {Integer.MIN_VALUE, -1, 11, Integer.MAX_VALUE}) {
            for (boolean loud : new boolean[] {false, true}) {
                refused("shout(" + depth + ")", RefusalsTest::rich, x -> x.shout(depth, loud), Check.OUTSIDE);
                refused("full: shout(" + depth + ")", RefusalsTest::fullShouts, x -> x.shout(depth, loud), Check.OUTSIDE);
            }
        }
        for (int depth : new int[] {0, 4, 10}) {
            for (boolean loud : new boolean[] {false, true}) {
                refused("full: shout(" + depth + ")", RefusalsTest::fullShouts, x -> x.shout(depth, loud), Check.FULL);
            }
        }
    }

    private static void ofTheBook() {
        for (int c : NO_CASES) {
            for (int is : new int[] {0, 5}) {
                refused("write(" + c + ", " + is + ")", RefusalsTest::rich, x -> x.write(c, is), Check.UNKNOWN);
                refused("full: write(" + c + ", " + is + ")", RefusalsTest::fullBook, x -> x.write(c, is), Check.UNKNOWN);
            }
        }
        for (int is : new int[] {Integer.MIN_VALUE, -1, 5, Integer.MAX_VALUE}) {
            refused("write(0, " + is + ")", RefusalsTest::rich, x -> x.write(0, is), Check.OUTSIDE);
            refused("full: write(0, " + is + ")", RefusalsTest::fullBook, x -> x.write(0, is), Check.OUTSIDE);
        }
        for (int is = 0; is <= 4; is++) {
            int one = is;
            refused("full: write(4, " + is + ")", RefusalsTest::fullBook, x -> x.write(4, one), Check.FULL);
        }
        refused("no beach: write(0, 0)", RefusalsTest::noBeach, x -> x.write(0, 0), Check.UNKNOWN);
        refused("no beach: write(0, 5)", RefusalsTest::noBeach, x -> x.write(0, 5), Check.UNKNOWN);
    }

    private static void ofTheSeed() {
        for (int v : new int[] {-1, Integer.MIN_VALUE}) {
            refused("seed(" + v + ")", RefusalsTest::rich, x -> x.seed(v), Check.OUTSIDE);
            refused("no beach: seed(" + v + ")", RefusalsTest::noBeach, x -> x.seed(v), Check.OUTSIDE);
        }
    }

    private static void ofImages() {
        for (int i : NO_IMAGES) {
            refused("keep(" + i + ")", RefusalsTest::rich, x -> x.keep(i), Check.UNKNOWN);
            refused("goBack(" + i + ")", RefusalsTest::rich, x -> x.goBack(i), Check.UNKNOWN);
        }
        refused("goBack(1), not kept", RefusalsTest::rich, x -> x.goBack(1), Check.NOT);
        refused("no beach: goBack(0), not kept", RefusalsTest::noBeach, x -> x.goBack(0), Check.NOT);
    }

    /** "No call may ever throw or fail to end, for any arguments in any state" (LANGUAGE.md, 7). */
    private static void ofAnyNumbers() {
        int[] any = {Integer.MIN_VALUE, Integer.MIN_VALUE + 1, -1000000001, -65536, -1, 0, 1, 4, 5, 9, 10, 65536,
            1000000000, Integer.MAX_VALUE - 1, Integer.MAX_VALUE};
        for (int a : any) {
            for (int b : any) {
                for (int which = 0; which < 2; which++) {
                    BathingCourt x = which == 0 ? rich() : noBeach();
                    askAll(x, a, b);
                    Check.due("told(0) behind any numbers", x.told(0), which == 0 ? 2 : 0);
                }
            }
        }
    }

    private static void askAll(BathingCourt x, int a, int b) {
        x.told(a);
        x.depth(a, b);
        x.hut(a, b);
        x.legal(a, b);
        x.open(a);
        x.plan(a, b);
        x.dry(a);
        x.stays(a, b);
        x.spot(a);
        x.soonest(a, b);
        x.offer(a, b, b, a);
        x.offer(b, a, a, b);
        x.offer(0, a, b, 1);
        x.calm(a, b);
        x.bring(a, b);
        x.drawTo(a, b);
        x.settle(a);
        x.shout(a, b > 0);
        x.write(a, b);
        x.seed(a);
        x.keep(a);
        x.goBack(b);
        x.hour(a);
        x.drift(b);
        x.feed(a);
        x.undo();
    }

    /** "TRIED from now; nothing changes by it", nor by what is only asked. */
    private static void nothingChangesByWhatIsTried() {
        leaves("open()", x -> x.open(0) + x.open(4));
        leaves("plan()", x -> x.plan(1, -1) + x.plan(4, 0) + x.plan(2, 3));
        leaves("dry()", x -> x.dry(0) + x.dry(9));
        leaves("stays()", x -> x.stays(0, 0) + x.stays(9, 10));
        leaves("spot()", x -> x.spot(0) + x.spot(10));
        leaves("soonest()", x -> x.soonest(0, 0) + x.soonest(3, 4));
        leaves("offer()", x -> x.offer(0, 50, 3, 0) + x.offer(4, 100, 999, 1));
        leaves("calm()", x -> x.calm(60, 1));
        leaves("bears()", x -> x.bears());
        leaves("listen()", x -> x.listen());
        leaves("judge()", x -> x.judge());
        leaves("fault()", x -> x.fault());
        leaves("depth()", x -> x.depth(9, 99));
        leaves("hut()", x -> x.hut(3, 0) + x.hut(0, 3));
        leaves("legal()", x -> x.legal(4, 0) + x.legal(0, 5));
        leaves("told()", x -> {
            int sum = 0;
            for (int what = 0; what <= 12; what++) {
                sum += x.told(what);
            }
            return sum;
        });
    }

    private static void leaves(String call, ToIntFunction<BathingCourt> asked) {
        BathingCourt x = rich();
        int first = asked.applyAsInt(x);
        Check.due(call + " once more", asked.applyAsInt(x), first);
        Check.due("all that is held behind " + call, Check.held(x), Check.held(rich()));
    }

    private static void refused(String call, Supplier<BathingCourt> maker, ToIntFunction<BathingCourt> asked, int want) {
        Check.refused(call, maker, asked, want);
    }
}
