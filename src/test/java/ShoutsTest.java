/** Promises 23 to 28: shouts and the book. */
final class ShoutsTest {
    public static void main(String[] args) {
        shout();
        bears();
        listen();
        write();
        tear();
        judge();
        Check.finish();
    }

    private static void shout() {
        BathingCourt x = new BathingCourt();
        Check.due("shout(-1, true)", x.shout(-1, true), Check.OUTSIDE);
        Check.due("shout(11, false)", x.shout(11, false), Check.OUTSIDE);
        for (int i = 1; i <= 6; i++) {
            Check.due("shout(10, true)", x.shout(10, true), i);
        }
        Check.due("a seventh", x.shout(0, true), Check.FULL);
        Check.due("a seventh, outside", x.shout(11, true), Check.OUTSIDE);
        Check.due("told(10)", x.told(10), 6);
        Check.due("bears()", x.bears(), 1023);
    }

    private static void bears() {
        BathingCourt x = new BathingCourt();
        Check.due("bears() of no shouts", x.bears(), 2047);
        x.shout(10, true);
        Check.due("bears() less than 10", x.bears(), 1023);
        x.shout(0, false);
        Check.due("bears() 0 or more", x.bears(), 1023);
        x.shout(4, false);
        Check.due("bears() 4 or more", x.bears(), 1023 - 15);
        x.shout(6, true);
        Check.due("bears() 4 or 5", x.bears(), 48);
        x.shout(4, true);
        Check.due("bears() nothing", x.bears(), 0);
        BathingCourt never = new BathingCourt();
        never.shout(0, true);
        Check.due("bears() less than 0", never.bears(), 0);
    }

    private static void listen() {
        BathingCourt x = new BathingCourt();
        Check.due("listen() of 0 .. 10", x.listen(), 5);
        x.shout(7, false);
        Check.due("listen() of 7 .. 10", x.listen(), 9);
        x.shout(9, false);
        Check.due("listen() of 9, 10", x.listen(), 10);
        x.shout(10, false);
        Check.due("listen() of 10", x.listen(), Check.NONE);
        x.shout(10, true);
        Check.due("listen() of nothing", x.listen(), Check.NONE);
        BathingCourt low = new BathingCourt();
        low.shout(3, true);
        Check.due("listen() of 0 .. 2", low.listen(), 1);
    }

    private static void write() {
        BathingCourt x = Check.court("b1;c1 1 0 0;c1 1 0 0;");
        Check.due("write(2, 5)", x.write(2, 5), Check.UNKNOWN);
        Check.due("write(-1, 0)", x.write(-1, 0), Check.UNKNOWN);
        Check.due("write(0, -1)", x.write(0, -1), Check.OUTSIDE);
        Check.due("write(0, 5)", x.write(0, 5), Check.OUTSIDE);
        for (int i = 1; i <= 15; i++) {
            Check.due("write(" + i % 2 + ", " + i % 5 + ")", x.write(i % 2, i % 5), i);
        }
        Check.due("a sixteenth", x.write(0, 0), Check.FULL);
        Check.due("a sixteenth, outside", x.write(0, 5), Check.OUTSIDE);
        Check.due("a sixteenth, unknown", x.write(2, 0), Check.UNKNOWN);
        Check.due("told(11)", x.told(11), 15);
        Check.due("no beach: write(0, 0)", new BathingCourt().write(0, 0), Check.UNKNOWN);
    }

    private static void tear() {
        BathingCourt x = Check.court("b1;c1 1 0 0;");
        Check.due("tear() of nothing", x.tear(), 0);
        x.shout(1, true);
        x.shout(1, false);
        x.write(0, 4);
        Check.due("tear()", x.tear(), 3);
        Check.due("told(10)", x.told(10), 0);
        Check.due("told(11)", x.told(11), 0);
        Check.due("bears()", x.bears(), 2047);
        Check.due("judge()", x.judge(), Check.NONE);
        Check.due("write(0, 0)", x.write(0, 0), 1);
    }

    private static void judge() {
        BathingCourt x = Check.court("b0;h9;h9;h9;c1 1 0 0;c1 1 0 0;c1 1 0 0;c9 1 0 0;c1 1 0 0;");
        Check.due("judge() of an empty book", x.judge(), Check.NONE);
        x.write(4, 0);
        x.write(3, 1);
        x.write(2, 2);
        x.write(1, 3);
        x.write(0, 4);
        Check.due("an entry of a case that waits", x.judge(), 1);
        x.bring(3, 0);
        Check.due("an entry of a case in a hut", x.judge(), 2);
        x.bring(2, 1);
        x.hour(1);
        Check.due("an entry of a judged case", x.judge(), 3);
        x.settle(1);
        Check.due("an entry of a settled case", x.judge(), 4);
        x.bring(0, 2);
        x.drawTo(2, 1);
        x.hour(1);
        Check.due("an entry of a case that broke off", x.judge(), Check.NONE);
        x.write(0, 3);
        Check.due("the same case again", x.judge(), 5);
        x.undo();
        Check.due("behind undo()", x.judge(), 4);
    }
}
