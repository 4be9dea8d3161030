import java.util.function.Supplier;
import java.util.function.ToIntFunction;

/** What the tests share: they count wrong answers, and end with 1 if there was one. */
final class Check {
    static final int NONE = -1, UNKNOWN = -1000000001, OUTSIDE = -1000000002, NOT = -1000000003, FULL = -1000000004;

    private static int wrong = 0;
    private static int asked = 0;

    private Check() {
    }

    static void due(String call, long got, long want) {
        asked++;
        if (got != want) {
            wrong++;
            System.out.println(call + " answered " + got + ", due is " + want);
        }
    }

    static void due(String call, String got, String want) {
        asked++;
        if (!got.equals(want)) {
            wrong++;
            System.out.println(call + " answered " + got + ", due is " + want);
        }
    }

    static void feed(BathingCourt court, String text) {
        for (int i = 0; i < text.length(); i++) {
            court.feed(text.charAt(i));
        }
    }

    /** A court on the beach that the text tells. */
    static BathingCourt court(String text) {
        BathingCourt court = new BathingCourt();
        feed(court, text);
        int answer = court.beach();
        if (answer < 0) {
            due("beach() of a good text: " + text, answer, 0);
        }
        return court;
    }

    /** All that can be asked without changing anything, but for the place of the fault. */
    static String seen(BathingCourt court) {
        StringBuilder all = new StringBuilder();
        for (int what = 0; what <= 12; what++) {
            all.append(court.told(what)).append(' ');
        }
        for (int h = 0; h < 4; h++) {
            for (int what = 0; what <= 3; what++) {
                all.append(court.hut(h, what)).append(' ');
            }
        }
        for (int c = 0; c < 5; c++) {
            for (int what = 0; what <= 5; what++) {
                all.append(court.legal(c, what)).append(' ');
            }
        }
        for (int n = 0; n < 12; n++) {
            all.append(court.depth(9, n)).append(' ');
        }
        all.append(court.bears()).append(' ').append(court.judge()).append(' ');
        int seed = court.seed(0);
        court.seed(seed);
        return all.append(seed).toString();
    }

    /** What section 2 of the document tells of a court, in few calls. */
    static String day(BathingCourt court) {
        StringBuilder all = new StringBuilder();
        for (int what = 4; what <= 9; what++) {
            all.append(court.told(what)).append(' ');
        }
        int huts = court.told(1);
        for (int h = 0; h < huts; h++) {
            for (int what = 1; what <= 3; what++) {
                all.append(court.hut(h, what)).append(' ');
            }
        }
        int cases = court.told(2);
        for (int c = 0; c < cases; c++) {
            all.append(court.legal(c, 4)).append(' ').append(court.legal(c, 5)).append(' ');
        }
        return all.toString();
    }

    /**
     * All that is held, the hidden things too: what could be undone, the images, the letters of the text. The
     * court is used up by it; with a maker of some hundred calls an object stays within its 512.
     */
    static String held(BathingCourt court) {
        StringBuilder all = new StringBuilder(seen(court));
        all.append(" fault ").append(court.fault()).append(" listen ").append(court.listen());
        for (int i = 0; i < 4; i++) {
            all.append(" undone ").append(court.undo()).append(' ').append(day(court));
        }
        for (int i = 0; i < 2; i++) {
            int seed = court.seed(1);
            all.append(" image ").append(court.goBack(i)).append(' ').append(seed).append(' ').append(day(court));
        }
        all.append(" text ").append(court.feed(';')).append(' ').append(court.beach()).append(' ').append(court.fault());
        return all.append(' ').append(seen(court)).toString();
    }

    /** The call is refused in that way, and its court holds what a twin that was never asked holds. */
    static void refused(String call, Supplier<BathingCourt> maker, ToIntFunction<BathingCourt> asked, int want) {
        BathingCourt court = maker.get();
        due(call, asked.applyAsInt(court), want);
        due("all that is held behind " + call, held(court), held(maker.get()));
    }

    /** The text with blanks put in at a place until it has that many letters. */
    static String stretched(String text, int at, int letters) {
        return text.substring(0, at) + " ".repeat(letters - text.length()) + text.substring(at);
    }

    static void finish() {
        System.out.println(wrong == 0 ? asked + " answers are as due" : wrong + " answers are not as due");
        if (wrong != 0 || asked == 0) {
            System.exit(1);
        }
    }
}
