import java.util.Random;

/**
 * Runs of calls, the same ones each time, on BathingCourt and on PlainCourt: all answers are alike.
 * What an object answers behind its 512th call is free, so a run ends ahead of that.
 */
final class RunsTest {
    private static final int RUNS = 6000;
    private static final int RUNS_OF_TEXTS = 10000;
    private static final int CALLS = 512;
    /** What a text, and a look at everything, take at most. */
    private static final int CALLS_OF_A_TEXT = 240 + 2 + 13;
    private static final int CALLS_OF_A_LOOK = 4 * 4 + 5 * 6 + 13;
    private static final int[] EDGES = {-1, -2, 4, 5, 6, 9, 10, 11, 12, 13, 15, 60, 61, 99, 100, 101, 255, 256, 999, 1000,
        Integer.MIN_VALUE, Integer.MAX_VALUE};

    private final Random random;
    private final BathingCourt court = new BathingCourt();
    private final PlainCourt plain = new PlainCourt();
    private int calls = 0;

    private RunsTest(long seed) {
        random = new Random(seed);
    }

    public static void main(String[] args) {
        for (int i = 0; i < RUNS; i++) {
            new RunsTest(i).run();
        }
        for (int i = 0; i < RUNS_OF_TEXTS; i++) {
            new RunsTest(RUNS + i).texts();
        }
        Check.finish();
    }

    private void run() {
        tell(goodText());
        while (calls < CALLS - CALLS_OF_A_LOOK - 6) {
            if (random.nextInt(100) == 0 && calls < CALLS - CALLS_OF_A_TEXT - CALLS_OF_A_LOOK) {
                tell(anotherText());
            }
            call();
        }
        look();
        Check.due("within its calls", calls <= CALLS ? 1 : 0, 1);
    }

    private void texts() {
        while (calls < CALLS - CALLS_OF_A_TEXT) {
            tell(anotherText());
        }
        Check.due("within its calls", calls <= CALLS ? 1 : 0, 1);
    }

    private void look() {
        for (int what = 0; what <= 12; what++) {
            same("told(" + what + ")", court.told(what), plain.told(what));
        }
        for (int h = 0; h < 4; h++) {
            for (int what = 0; what <= 3; what++) {
                same("hut(" + h + ", " + what + ")", court.hut(h, what), plain.hut(h, what));
            }
        }
        for (int c = 0; c < 5; c++) {
            for (int what = 0; what <= 5; what++) {
                same("legal(" + c + ", " + what + ")", court.legal(c, what), plain.legal(c, what));
            }
        }
    }

    private String anotherText() {
        return random.nextInt(4) == 0 ? anyText() : spoilt(goodText());
    }

    private void tell(String text) {
        for (int i = 0; i < text.length(); i++) {
            same("feed()", court.feed(text.charAt(i)), plain.feed(text.charAt(i)));
        }
        same("beach() of '" + text + "'", court.beach(), plain.beach());
        same("fault() of '" + text + "'", court.fault(), plain.fault());
        for (int what = 0; what <= 12; what++) {
            same("told(" + what + ") of '" + text + "'", court.told(what), plain.told(what));
        }
    }

    private String goodText() {
        StringBuilder text = new StringBuilder("b");
        int tides = 1 + random.nextInt(12);
        int high = 1 + random.nextInt(10);
        for (int i = 0; i < tides; i++) {
            text.append(i == 0 ? "" : ",").append(random.nextInt(high));
        }
        text.append(';');
        for (int i = random.nextInt(5); i > 0; i--) {
            text.append('h').append(1 + random.nextInt(9)).append(';');
        }
        // Five cases only now and then: PlainCourt looks at every plan.
        int cases = random.nextInt(20) == 0 ? 5 : random.nextInt(5);
        int longest = 1 + random.nextInt(4);
        int deepest = 1 + random.nextInt(9);
        for (int i = 0; i < cases; i++) {
            text.append('c').append(1 + random.nextInt(deepest)).append(' ').append(1 + random.nextInt(longest));
            text.append(' ').append(random.nextInt(10)).append(' ').append(random.nextInt(1000)).append(';');
        }
        return text.toString();
    }

    private String spoilt(String good) {
        StringBuilder text = new StringBuilder(good);
        for (int i = random.nextInt(4); i > 0; i--) {
            int at = random.nextInt(text.length());
            char sign = sign();
            switch (random.nextInt(4)) {
                case 0 -> text.setCharAt(at, sign);
                case 1 -> text.insert(at, sign);
                case 2 -> text.insert(at, text.substring(random.nextInt(at + 1), at));
                default -> text.setLength(Math.max(1, at));
            }
        }
        return text.length() > 240 ? text.substring(0, 240) : text.toString();
    }

    private String anyText() {
        StringBuilder text = new StringBuilder();
        for (int i = random.nextInt(30); i > 0; i--) {
            text.append(sign());
        }
        return text.toString();
    }

    private char sign() {
        String signs = "bhc,;  0123456789";
        return random.nextInt(40) == 0 ? (char) random.nextInt(256) : signs.charAt(random.nextInt(signs.length()));
    }

    /** Mostly within 0 .. most, now and then an edge. */
    private int number(int most) {
        return random.nextInt(25) == 0 ? EDGES[random.nextInt(EDGES.length)] : random.nextInt(most + 1);
    }

    private int call() {
        int kind = random.nextInt(34);
        int a = number(new int[] {3, 4, 9, 12, 60, 100}[random.nextInt(6)]);
        int b = number(new int[] {3, 4, 9, 12, 60, 100}[random.nextInt(6)]);
        int h = number(3);
        int c = number(4);
        int x = number(9);
        return switch (kind) {
            case 0 -> same("told", court.told(a), plain.told(a));
            case 1 -> same("depth", court.depth(x, b), plain.depth(x, b));
            case 2 -> same("hut", court.hut(h, c), plain.hut(h, c));
            case 3 -> same("legal", court.legal(c, h), plain.legal(c, h));
            case 4 -> same("hour", court.hour(a), plain.hour(a));
            case 5, 6 -> same("hour", court.hour(1), plain.hour(1));
            case 7, 8, 9 -> same("bring", court.bring(c, h), plain.bring(c, h));
            case 10, 11, 12 -> same("drawTo", court.drawTo(h, x), plain.drawTo(h, x));
            case 13 -> random.nextInt(4) == 0 ? same("settle", court.settle(c), plain.settle(c)) : skipped();
            case 14 -> same("drift", court.drift(a), plain.drift(a));
            case 15, 16 -> same("undo", court.undo(), plain.undo());
            case 17 -> same("open", court.open(c), plain.open(c));
            case 18 -> random.nextInt(8) == 0 ? planned() : skipped();
            case 19 -> same("dry", court.dry(x), plain.dry(x));
            case 20 -> same("stays", court.stays(x, a), plain.stays(x, a));
            case 21 -> same("spot", court.spot(a), plain.spot(a));
            case 22, 23 -> same("soonest", court.soonest(h, c), plain.soonest(h, c));
            case 24 -> same("offer", court.offer(c, a, b, h & 1), plain.offer(c, a, b, h & 1));
            case 25 -> same("calm", court.calm(a, b), plain.calm(a, b));
            case 26 -> same("shout", court.shout(x, b > 5), plain.shout(x, b > 5));
            case 27 -> same("bears", court.bears(), plain.bears());
            case 28 -> same("listen", court.listen(), plain.listen());
            case 29 -> same("write", court.write(c, h), plain.write(c, h));
            case 30 -> random.nextInt(4) == 0 ? same("tear", court.tear(), plain.tear()) : skipped();
            case 31 -> same("judge", court.judge(), plain.judge());
            case 32 -> seeded();
            default -> imaged();
        };
    }

    /** Counted as a call, so that a run has an end. */
    private int skipped() {
        calls++;
        return 0;
    }

    private int planned() {
        int m = number(4);
        for (int c = Check.NONE; c < 5; c++) {
            same("plan(" + m + ", " + c + ")", court.plan(m, c), plain.plan(m, c));
        }
        return 0;
    }

    private int seeded() {
        int v = random.nextInt();
        return same("seed", court.seed(v), plain.seed(v));
    }

    private int imaged() {
        int i = number(1);
        boolean back = random.nextInt(3) > 0;
        return back ? same("goBack", court.goBack(i), plain.goBack(i)) : same("keep", court.keep(i), plain.keep(i));
    }

    private int same(String call, int got, int want) {
        calls++;
        Check.due(call, got, want);
        return got;
    }
}
