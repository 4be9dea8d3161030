/** What the tests share: they count wrong answers, and end with 1 if there was one. */
final class Check {
    static final int NONE = -1, UNKNOWN = -1000000001, OUTSIDE = -1000000002, NOT = -1000000003, FULL = -1000000004;

    private static int wrong = 0;
    private static int asked = 0;

    private Check() {
    }

    static void due(String call, long got, long want) {
        asked++;
        if (got != want) {
            wrong++;
            System.out.println(call + " answered " + got + ", due is " + want);
        }
    }

    static void due(String call, String got, String want) {
        asked++;
        if (!got.equals(want)) {
            wrong++;
            System.out.println(call + " answered " + got + ", due is " + want);
        }
    }

    static void feed(BathingCourt court, String text) {
        for (int i = 0; i < text.length(); i++) {
            court.feed(text.charAt(i));
        }
    }

    /** A court on the beach that the text tells. */
    static BathingCourt court(String text) {
        BathingCourt court = new BathingCourt();
        feed(court, text);
        int answer = court.beach();
        if (answer < 0) {
            due("beach() of a good text: " + text, answer, 0);
        }
        return court;
    }

    /** All that can be asked without changing anything, but for the place of the fault. */
    static String seen(BathingCourt court) {
        StringBuilder all = new StringBuilder();
        for (int what = 0; what <= 12; what++) {
            all.append(court.told(what)).append(' ');
        }
        for (int h = 0; h < 4; h++) {
            for (int what = 0; what <= 3; what++) {
                all.append(court.hut(h, what)).append(' ');
            }
        }
        for (int c = 0; c < 5; c++) {
            for (int what = 0; what <= 5; what++) {
                all.append(court.legal(c, what)).append(' ');
            }
        }
        for (int n = 0; n < 12; n++) {
            all.append(court.depth(9, n)).append(' ');
        }
        all.append(court.bears()).append(' ').append(court.judge()).append(' ');
        int seed = court.seed(0);
        court.seed(seed);
        return all.append(seed).toString();
    }

    static void finish() {
        System.out.println(wrong == 0 ? asked + " answers are as due" : wrong + " answers are not as due");
        if (wrong != 0 || asked == 0) {
            System.exit(1);
        }
    }
}
