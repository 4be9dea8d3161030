/** Section 1 and promises 1 to 5, edge by edge: each test is headed by the document's words that it is for. */
final class TextEdgesTest {
    private static final int LEAST = Integer.MIN_VALUE, GREATEST = Integer.MAX_VALUE;
    private static final String CASE = "c1 1 0 0;";
    private static final String FULLEST = "b1,2,3,4,5,6,7,8,9,0,1,2;h1;h2;h3;h4;" + CASE.repeat(5);

    public static void main(String[] args) {
        newObject();
        lettersAreNumbersTo255();
        textOf240();
        tideOf1To12();
        tideNumbers();
        tideWrapsAround();
        tideFirst();
        tideOnce();
        hutsAtMost4();
        hutNumbers();
        casesAtMost5();
        caseNumbers();
        clausesInAnyOrder();
        figures();
        wordsOfOneLetter();
        everyLetterAtEveryPlace();
        blanksAnywhere();
        blanksWithinNumbers();
        numbersSideBySide();
        onlyLetter32IsABlank();
        firstLetterThatHasAFault();
        leastOfTheFaultsOfALetter();
        endAtTheTextsLength();
        thirteenthAtItsComma();
        emptyTexts();
        nothingOfAnEarlierText();
        faultOfTheLatest();
        beachBegins();
        beachOfNothingBegins();
        beachWithAFault();
        toldBounds();
        toldFullest();
        Check.finish();
    }

    /** "No BEACH."; THE SEED "0 at first". */
    private static void newObject() {
        BathingCourt x = new BathingCourt();
        for (int what = 0; what <= 12; what++) {
            Check.due("new: told(" + what + ")", x.told(what), 0);
        }
        Check.due("new: fault()", x.fault(), Check.NONE);
        Check.due("new: hut(0, 0)", x.hut(0, 0), Check.UNKNOWN);
        Check.due("new: legal(0, 0)", x.legal(0, 0), Check.UNKNOWN);
        Check.due("new: hour(1)", x.hour(1), Check.NOT);
        Check.due("new: undo()", x.undo(), Check.NOT);
        Check.due("new: bears()", x.bears(), 2047);
        Check.due("new: judge()", x.judge(), Check.NONE);
        Check.due("new: goBack(0)", x.goBack(0), Check.NOT);
        Check.due("new: goBack(1)", x.goBack(1), Check.NOT);
        Check.due("new: seed(0)", x.seed(0), 0);
        BathingCourt used = Check.court(FULLEST);
        used.hour(60);
        Check.due("new, beside one that is used: told(0)", new BathingCourt().told(0), 0);
    }

    /** "One letter (a number 0 .. 255) comes behind THE TEXT: how many it has. OUTSIDE" */
    private static void lettersAreNumbersTo255() {
        BathingCourt x = new BathingCourt();
        for (int letter : new int[] {LEAST, -256, -1, 256, 257, GREATEST}) {
            Check.due("feed(" + letter + ")", x.feed(letter), Check.OUTSIDE);
            Check.due("told(3) behind feed(" + letter + ")", x.told(3), 0);
        }
        Check.due("feed(0)", x.feed(0), 1);
        Check.due("feed(255)", x.feed(255), 2);
        bad("b1;" + (char) 0, 1, 3);
        bad("b1;" + (char) 255, 1, 3);
        // Letters whose low bits are those of a word stay what they are.
        bad("b1;" + (char) ('h' + 128) + "1;", 1, 3);
        bad("b" + (char) ('1' + 128) + ";", 1, 1);
    }

    /** "THE BEACH is told in a text (240 letters at most)"; "FULL (240)" */
    private static void textOf240() {
        String longest = Check.stretched("b1;h7;", 3, 240);
        good(longest, 1, 1, 0);
        good(longest.replaceFirst(" ", ""), 1, 1, 0);
        bad(longest.substring(0, 239) + "x", 1, 239);
        bad(Check.stretched("b1;h0;", 3, 240), 2, 238);
        bad(Check.stretched("b1;b", 3, 240), 3, 239);
        bad(Check.stretched("b1;h7", 3, 240), 1, 240);
        BathingCourt x = new BathingCourt();
        for (int i = 0; i < 240; i++) {
            Check.due("feed(), letter " + (i + 1), x.feed(longest.charAt(i)), i + 1);
        }
        for (int letter : new int[] {';', 'x', 0, 255}) {
            Check.due("feed(" + letter + "), letter 241", x.feed(letter), Check.FULL);
        }
        Check.due("told(3), full", x.told(3), 240);
        Check.due("beach() of the 240", x.beach(), 0);
        Check.due("hut(0, 0) of the 240", x.hut(0, 0), 7);
        Check.due("feed() behind beach()", x.feed('b'), 1);
    }

    /** "THE TIDE: 1 to 12 numbers" */
    private static void tideOf1To12() {
        bad("b;", 1, 1);
        bad("b ;", 1, 2);
        for (int many = 1; many <= 12; many++) {
            good("b1" + ",1".repeat(many - 1) + ";", many, 0, 0);
        }
        bad("b1" + ",1".repeat(12) + ";", 1, 24);
        bad("b1" + ",1".repeat(20) + ";", 1, 24);
    }

    /** "numbers, 0 .. 9" */
    private static void tideNumbers() {
        for (int t = 0; t <= 9; t++) {
            BathingCourt x = good("b" + t + ";", 1, 0, 0);
            Check.due("depth(9, 0) of tide " + t, x.depth(9, 0), 10 - t);
        }
        bad("b10;", 2, 1);
        bad("b99;", 2, 1);
        bad("b999;", 2, 1);
        bad("b9,10,9;", 2, 3);
        bad("b" + "9,".repeat(11) + "10;", 2, 23);
        bad("b-1;", 1, 1);
    }

    /** "in HOUR k the water begins at CELL T, of k left over by how many" */
    private static void tideWrapsAround() {
        int[] begins = {3, 0, 9, 7, 1, 4, 8, 2, 6, 5, 0, 9};
        StringBuilder text = new StringBuilder("b");
        for (int many = 1; many <= 12; many++) {
            text.append(many == 1 ? "" : ",").append(begins[many - 1]);
            BathingCourt x = good(text + ";", many, 0, 0);
            for (int n = 0; n <= 99; n++) {
                Check.due("depth(9, " + n + ") of " + many, x.depth(9, n), 10 - begins[n % many]);
            }
            x.hour(many);
            Check.due("depth(9, 0) when it is as at first, of " + many, x.depth(9, 0), 10 - begins[0]);
            x.hour(60);
            Check.due("depth(9, 0) later, of " + many, x.depth(9, 0), 10 - begins[60 % many]);
        }
    }

    /** "first"; "1 it cannot stand there (.. another word first than 'b' ..)" */
    private static void tideFirst() {
        bad("h1;b1;", 1, 0);
        bad("c1 1 0 0;b1;", 1, 0);
        bad("   h1;", 1, 3);
        bad("h0000;", 1, 0);
        bad("1;", 1, 0);
        bad("1000;", 1, 0);
        bad(",", 1, 0);
        bad(";b1;", 1, 0);
    }

    /** "once"; "3 'b' again" */
    private static void tideOnce() {
        bad("b1;b1;", 3, 3);
        bad("b1;b", 3, 3);
        bad("b1;  b1;", 3, 5);
        bad("b1;h1;b1;", 3, 6);
        bad("b1;" + CASE + "b1;", 3, 12);
        bad(FULLEST + "b", 3, FULLEST.length());
    }

    /** "4 HUTS at most"; "3 .. a fifth 'h'" */
    private static void hutsAtMost4() {
        for (int many = 0; many <= 4; many++) {
            BathingCourt x = good("b1;" + "h1;".repeat(many), 1, many, 0);
            Check.due("hut(last, 0)", x.hut(many - 1, 0), many == 0 ? Check.UNKNOWN : 1);
            Check.due("hut(many, 0)", x.hut(many, 0), Check.UNKNOWN);
        }
        bad("b1;" + "h1;".repeat(5), 3, 15);
        bad("b1;" + "h1;".repeat(4) + "h", 3, 15);
        bad("b1;" + "h1;".repeat(4) + " h0;", 3, 16);
        bad("b1;" + "h1;".repeat(3) + CASE + "h1;h1;", 3, 24);
    }

    /** "its horse goes P CELLS an HOUR at most, 1 .. 9" */
    private static void hutNumbers() {
        for (int p = 1; p <= 9; p++) {
            Check.due("hut(0, 0)", good("b1;h" + p + ";", 1, 1, 0).hut(0, 0), p);
        }
        for (String p : new String[] {"0", "00", "000", "10", "19", "100", "999", "1000", "0000", "0001"}) {
            bad("b1;h" + p + ";", 2, 4);
            bad("b1;h9;h" + p + ";", 2, 7);
        }
    }

    /** "5 CASES at most"; "3 .. a sixth 'c'" */
    private static void casesAtMost5() {
        for (int many = 0; many <= 5; many++) {
            BathingCourt x = good("b1;" + CASE.repeat(many), 1, 0, many);
            Check.due("legal(last, 0)", x.legal(many - 1, 0), many == 0 ? Check.UNKNOWN : 1);
            Check.due("legal(many, 0)", x.legal(many, 0), Check.UNKNOWN);
        }
        bad("b1;" + CASE.repeat(6), 3, 48);
        bad("b1;" + CASE.repeat(5) + "c", 3, 48);
        bad("b1;" + CASE.repeat(5) + "  c0", 3, 50);
        bad("b1;" + CASE.repeat(4) + "h1;" + CASE.repeat(2), 3, 51);
    }

    /** "D, 1 .. 9, for L HOURS, 1 .. 4; .. N DEPTHS more, 0 .. 9; W is sued for, 0 .. 999" */
    private static void caseNumbers() {
        int[] least = {1, 1, 0, 0};
        int[] most = {9, 4, 9, 999};
        int[] places = {4, 6, 8, 10};
        for (int k = 0; k < 4; k++) {
            for (int value = 0; value <= 1001; value++) {
                String text = caseWith(k, Integer.toString(value));
                if (value >= least[k] && value <= most[k]) {
                    Check.due("legal(0, " + k + ") of " + text, good(text, 1, 0, 1).legal(0, k), value);
                } else {
                    bad(text, 2, places[k]);
                }
            }
            bad(caseWith(k, "0001"), 2, places[k]);
            bad(caseWith(k, "-1"), 1, places[k]);
            bad(caseWith(k, ";"), 1, places[k]);
        }
    }

    private static String caseWith(int k, String number) {
        String[] numbers = {"1", "1", "1", "1"};
        numbers[k] = number;
        return "b1;c" + String.join(" ", numbers) + ";";
    }

    /** "What has a number has it from 0 on, as it comes." */
    private static void clausesInAnyOrder() {
        BathingCourt x = good("b1;c9 4 9 999;h9;c1 1 0 0;h1;c5 2 3 44;", 1, 2, 3);
        int[] paces = {9, 1};
        for (int h = 0; h < 2; h++) {
            Check.due("hut(" + h + ", 0)", x.hut(h, 0), paces[h]);
        }
        int[][] cases = {{9, 4, 9, 999}, {1, 1, 0, 0}, {5, 2, 3, 44}};
        for (int c = 0; c < 3; c++) {
            for (int what = 0; what < 4; what++) {
                Check.due("legal(" + c + ", " + what + ")", x.legal(c, what), cases[c][what]);
            }
        }
    }

    /** "NUMBERS have one to three figures"; "2 a NUMBER of four figures or more .. (at its first)" */
    private static void figures() {
        for (String nine : new String[] {"9", "09", "009"}) {
            BathingCourt x = good("b" + nine + ";h" + nine + ";c" + nine + " 004 " + nine + " 099;", 1, 1, 1);
            Check.due("depth(9, 0)", x.depth(9, 0), 1);
            Check.due("hut(0, 0)", x.hut(0, 0), 9);
            Check.due("legal(0, 0)", x.legal(0, 0), 9);
            Check.due("legal(0, 1)", x.legal(0, 1), 4);
            Check.due("legal(0, 2)", x.legal(0, 2), 9);
            Check.due("legal(0, 3)", x.legal(0, 3), 99);
        }
        good("b000;", 1, 0, 0);
        bad("b0000;", 2, 1);
        bad("b0009;", 2, 1);
        bad("b  0009;", 2, 3);
        bad("b1;c1 1 0 1000;", 2, 10);
        bad("b1;c1 1 0 0999;", 2, 10);
        bad("b" + "0".repeat(239), 2, 1);
        // So many figures that a count of them in 32 or 64 bits comes back to a small number.
        bad("b4294967297;", 2, 1);
        bad("b18446744073709551617;", 2, 1);
        bad("b1;c1 1 0 4294967296;", 2, 10);
    }

    /** "a word is one letter" */
    private static void wordsOfOneLetter() {
        bad("bb1;", 1, 1);
        bad("b1;hh1;", 1, 4);
        bad("b1;cc1 1 0 0;", 1, 4);
        bad("b1;hut1;", 1, 4);
        bad("B1;", 1, 0);
        bad("b1;H1;", 1, 3);
        bad("b1;C1 1 0 0;", 1, 3);
    }

    /** "1 it cannot stand there (a letter that is no word ..)" */
    private static void everyLetterAtEveryPlace() {
        for (char sign = 0; sign <= 255; sign++) {
            boolean figure = sign >= '0' && sign <= '9';
            if (sign == 'b' || sign == ' ') {
                atLetter("", sign, sign == ' ' ? 0 : 1, 1);
            } else {
                atLetter("", sign, 1, 0);
            }
            if (sign == ' ' || sign == 'h' || sign == 'c') {
                atLetter("b1;", sign, sign == ' ' ? 0 : 1, 4);
            } else {
                atLetter("b1;", sign, sign == 'b' ? 3 : 1, 3);
            }
            atLetter("b1;h", sign, sign == '0' ? 2 : 1, figure && sign != '0' || sign == ' ' ? 5 : 4);
            atLetter("b1;c1 ", sign, sign == '0' || sign > '4' && figure ? 2 : 1,
                    sign >= '1' && sign <= '4' || sign == ' ' ? 7 : 6);
            if (sign == ';') {
                atLetter("b1", sign, 0, 0);
            } else if (figure) {
                atLetter("b1", sign, 2, 1);
            } else {
                atLetter("b1", sign, 1, sign == ',' || sign == ' ' ? 3 : 2);
            }
            atLetter("b1;h1 ", sign, sign == ';' ? 0 : 1, sign == ' ' ? 7 : 6);
            atLetter("b1;c1 1 0 0 ", sign, sign == ';' ? 0 : 1, sign == ' ' ? 13 : 12);
        }
    }

    private static void atLetter(String before, char sign, int number, int place) {
        BathingCourt x = new BathingCourt();
        Check.feed(x, before + sign);
        int answer = x.beach();
        String told = "'" + before + "' and the letter " + (int) sign;
        Check.due("beach() of " + told, answer < 0 ? answer : 0, number == 0 ? 0 : -10 - number);
        Check.due("fault() of " + told, x.fault(), number == 0 ? Check.NONE : place);
    }

    /** "blanks (32) may stand anywhere" */
    private static void blanksAnywhere() {
        String text = "b1,0;h3;c4 1 5 6;";
        for (int at = 0; at <= text.length(); at++) {
            for (int many : new int[] {1, 2, 50}) {
                good(Check.stretched(text, at, text.length() + many), 2, 1, 1);
            }
        }
        good("  b  1  ,  0  ;  h  3  ;  c  4  1  5  6  ;  ", 2, 1, 1);
    }

    /** "but within NUMBERS" */
    private static void blanksWithinNumbers() {
        good("b1;c4 1 5 678;", 1, 0, 1);
        bad("b1;c4 1 5 6 78;", 1, 12);
        bad("b1;c4 1 5 67 8;", 1, 13);
        bad("b0 9;", 1, 3);
        bad("b1;h0 9;", 2, 4);
        bad("b1;h1 9;", 1, 6);
        good("b1;c1 1 0 0;", 1, 0, 1);
        bad("b1;c1 1 0 0 0;", 1, 12);
    }

    /** "two NUMBERS side by side need one" */
    private static void numbersSideBySide() {
        bad("b1;c41 5 67;", 2, 4);
        bad("b1;c4 15 67;", 2, 6);
        bad("b1;c4 1 567;", 2, 8);
        bad("b1;c4 1 5;", 1, 9);
        bad("b1;c04 1 5;", 1, 10);
        bad("b1;c4 1 05;", 1, 10);
        // A ',' parts the numbers of the tide, but not those of a case.
        good("b1,2;", 2, 0, 0);
        bad("b1 2;", 1, 3);
        bad("b1;c4,1 5 6;", 1, 5);
        bad("b1;c4 1 5,6;", 1, 9);
    }

    /** "blanks (32)" */
    private static void onlyLetter32IsABlank() {
        for (char sign : new char[] {9, 10, 11, 12, 13, 31, 33, 133, 160}) {
            bad(sign + "b1;", 1, 0);
            bad("b" + sign + "1;", 1, 1);
            bad("b1" + sign + ";", 1, 2);
            bad("b1;" + sign, 1, 3);
            bad("b1;c1" + sign + "1 0 0;", 1, 5);
            bad("" + sign, 1, 0);
        }
    }

    /** "FAULTS, at the first letter that has one" */
    private static void firstLetterThatHasAFault() {
        bad("b10;x;b", 2, 1);
        bad("b1;x;h0;b", 1, 3);
        bad("b1;b;x;h0;", 3, 3);
        bad("b1;h0;x", 2, 4);
        bad("b1;h0 x", 2, 4);
        bad("b1;h0", 2, 4);
        bad("b1;h1x0;", 1, 5);
        bad("b10,11;", 2, 1);
        bad("b1;c0 0 10 1000;", 2, 4);
        bad("b1;c1 0 10 1000;", 2, 6);
        bad("b1;c1 1 10 1000;", 2, 8);
        bad("b1;c1 1 1 1000", 2, 10);
        bad("b1;" + "h1;".repeat(4) + "hx", 3, 15);
        bad("b1;" + CASE.repeat(5) + "c0 0", 3, 48);
        bad("b9,9,10" + ",1".repeat(12) + ";", 2, 5);
        bad("b1" + ",1".repeat(12) + "000;", 1, 24);
        bad("h1;x", 1, 0);
    }

    /** "of these the least" */
    private static void leastOfTheFaultsOfALetter() {
        // A 'b' again where no word can stand.
        bad("bb", 1, 1);
        bad("b1b", 1, 2);
        bad("b1,b", 1, 3);
        bad("b1;hb", 1, 4);
        bad("b1;h1b", 1, 5);
        bad("b1;c1 1 b", 1, 8);
        // A fifth 'h' and a sixth 'c' where none can stand.
        bad("b1;" + "h1;".repeat(3) + "h1h", 1, 14);
        bad("b1;" + "h1;".repeat(3) + "hh", 1, 13);
        bad("b1;" + CASE.repeat(4) + "c1 1 0 0c", 1, 47);
        bad("b1;" + CASE.repeat(4) + "c1c", 1, 41);
        // Numbers that are wrong where no number can stand.
        bad("b1 1000;", 1, 3);
        bad("b1;1000;", 1, 3);
        bad("b1;h1 0000;", 1, 6);
        bad("b1;c1 1 0 0 1000;", 1, 12);
        bad("0000", 1, 0);
    }

    /** "(the end at the text's length)" */
    private static void endAtTheTextsLength() {
        String[] cut = {"b", "b1", "b1,", "b1,2", "b1;h", "b1;h1", "b1;c", "b1;c1", "b1;c1 1", "b1;c1 1 0", "b1;c1 1 0 0",
            "b1" + ",1".repeat(11)};
        for (String text : cut) {
            bad(text, 1, text.length());
            bad(text + " ", 1, text.length() + 1);
            String full = Check.stretched(text, text.length(), 240);
            bad(full, 1, 240);
        }
    }

    /** "a 13th T: at its ','" */
    private static void thirteenthAtItsComma() {
        String twelve = "b1" + ",1".repeat(11);
        good(twelve + ";", 12, 0, 0);
        good(twelve + "   ;", 12, 0, 0);
        bad(twelve + ",1;", 1, 24);
        bad(twelve + ",10;", 1, 24);
        bad(twelve + " ,1;", 1, 25);
        bad(twelve + ",   1;", 1, 24);
        bad(twelve + " 1;", 1, 25);
    }

    /** "An empty text (or one of blanks alone) has no FAULT: no BEACH." */
    private static void emptyTexts() {
        for (String text : new String[] {"", " ", "  ", " ".repeat(239), " ".repeat(240)}) {
            BathingCourt x = good(text, 0, 0, 0);
            Check.due("depth(0, 0) of blanks", x.depth(0, 0), Check.NOT);
            Check.due("hour(1) of blanks", x.hour(1), Check.NOT);
            Check.due("drift(1) of blanks", x.drift(1), Check.NOT);
        }
        bad(" ".repeat(239) + "h", 1, 239);
    }

    /** "THE TEXT (it is empty then, with a FAULT, too)": nothing of it stands behind what comes next. */
    private static void nothingOfAnEarlierText() {
        BathingCourt x = new BathingCourt();
        Check.feed(x, "b1;h1;h2;");
        x.beach();
        Check.due("told(3) behind beach()", x.told(3), 0);
        Check.feed(x, "b1;h1");
        Check.due("beach() of the beginning alone", x.beach(), -11);
        Check.due("fault() of the beginning alone", x.fault(), 5);
        Check.due("told(3) behind a fault", x.told(3), 0);
        Check.feed(x, "b1;h1;h1;" + CASE + CASE + "x");
        Check.due("beach() with huts, cases, a fault", x.beach(), -11);
        Check.feed(x, "b2,3;h5;");
        Check.due("beach() behind that", x.beach(), 0);
        Check.due("told(0) behind that", x.told(0), 2);
        Check.due("told(1) behind that", x.told(1), 1);
        Check.due("told(2) behind that", x.told(2), 0);
        Check.due("hut(0, 0) behind that", x.hut(0, 0), 5);
        Check.due("beach() of nothing", x.beach(), 0);
        Check.due("told(0) of nothing", x.told(0), 0);
        // A full text that was refused one letter makes room for 240 again.
        BathingCourt full = new BathingCourt();
        Check.feed(full, " ".repeat(241));
        full.beach();
        for (int i = 1; i <= 240; i++) {
            Check.due("feed() anew", full.feed(' '), i);
        }
        Check.due("feed() anew, letter 241", full.feed(' '), Check.FULL);
    }

    /** "The place (from 0 on) of the letter that has the FAULT of the latest beach(); NONE." */
    private static void faultOfTheLatest() {
        BathingCourt x = new BathingCourt();
        Check.due("fault() of none", x.fault(), Check.NONE);
        Check.feed(x, "x");
        Check.due("fault() ahead of beach()", x.fault(), Check.NONE);
        x.beach();
        Check.due("fault() at the first letter", x.fault(), 0);
        Check.feed(x, "b1;h1;x");
        Check.due("fault() of the latest beach(), not of what is fed", x.fault(), 0);
        x.beach();
        Check.due("fault() of the next", x.fault(), 6);
        Check.feed(x, "b1;h1;");
        x.beach();
        Check.due("fault() of a good one", x.fault(), Check.NONE);
        Check.feed(x, "b");
        x.beach();
        x.hour(1);
        x.keep(0);
        x.goBack(0);
        x.tear();
        Check.due("fault() behind other calls", x.fault(), 1);
        x.beach();
        Check.due("fault() of an empty one", x.fault(), Check.NONE);
    }

    /** "(HOUR 0, HUTS at the shore, all CASES WAIT; no SHOUTS, no BOOK; IMAGES, what could be undone are gone; THE SEED stays)" */
    private static void beachBegins() {
        String next = "b3,1;h5;h2;c2 3 1 40;c1 1 1 1;c1 1 1 1;c1 1 1 1;c3 1 1 2;";
        BathingCourt x = busy();
        int seed = x.seed(0);
        x.seed(seed);
        Check.due("the seed of it is not 0", seed > 0 ? 1 : 0, 1);
        Check.feed(x, next);
        Check.due("beach(): how many cases", x.beach(), 5);
        Check.due("told(4)", x.told(4), 0);
        for (int h = 0; h < 2; h++) {
            Check.due("hut(" + h + ", 1)", x.hut(h, 1), 0);
            Check.due("hut(" + h + ", 2)", x.hut(h, 2), Check.NONE);
            Check.due("hut(" + h + ", 3)", x.hut(h, 3), 0);
        }
        for (int c = 0; c < 5; c++) {
            Check.due("legal(" + c + ", 4)", x.legal(c, 4), 0);
            Check.due("legal(" + c + ", 5)", x.legal(c, 5), 0);
        }
        Check.due("told(10)", x.told(10), 0);
        Check.due("bears()", x.bears(), 2047);
        Check.due("told(11)", x.told(11), 0);
        Check.due("judge()", x.judge(), Check.NONE);
        Check.due("told(12)", x.told(12), 0);
        Check.due("undo()", x.undo(), Check.NOT);
        Check.due("goBack(0)", x.goBack(0), Check.NOT);
        Check.due("goBack(1)", x.goBack(1), Check.NOT);
        Check.due("the seed stays", x.seed(0), seed);
        Check.due("all else", Check.held(x), Check.held(Check.court(next)));
    }

    /** The same of an empty text: "no BEACH". */
    private static void beachOfNothingBegins() {
        BathingCourt x = busy();
        int seed = x.seed(0);
        Check.due("beach() of nothing", x.beach(), 0);
        Check.due("all but the seed", Check.held(x), Check.held(new BathingCourt()));
        BathingCourt y = busy();
        y.beach();
        Check.due("the seed stays", y.seed(0), seed);
    }

    /** "-10 less the number of its FAULT (all else is as it was)" */
    private static void beachWithAFault() {
        String[] faulty = {"x", "b10;", "b1;b", "b1;h1;h1;c1 1 0 0;c1 1 0 0;h", " ;"};
        int[] answers = {-11, -12, -13, -11, -11};
        int[] places = {0, 1, 3, 28, 1};
        for (int i = 0; i < faulty.length; i++) {
            BathingCourt x = busy();
            Check.feed(x, faulty[i]);
            Check.due("beach() of '" + faulty[i] + "'", x.beach(), answers[i]);
            Check.due("fault() of '" + faulty[i] + "'", x.fault(), places[i]);
            Check.due("told(3) behind '" + faulty[i] + "'", x.told(3), 0);
            // The twin's latest fault is made the same by another text, so that all else can be set side by side.
            BathingCourt twin = busy();
            Check.feed(twin, " ".repeat(places[i]) + "x");
            twin.beach();
            Check.due("all behind '" + faulty[i] + "'", Check.held(x), Check.held(twin));
            String before = Check.seen(busy());
            BathingCourt again = busy();
            Check.feed(again, faulty[i]);
            again.beach();
            Check.due("what is seen behind '" + faulty[i] + "'", Check.seen(again), before);
        }
    }

    /** "0 numbers of THE TIDE .. 12 how many can be undone. OUTSIDE." */
    private static void toldBounds() {
        for (int what : new int[] {LEAST, -1, 13, 14, GREATEST}) {
            Check.due("no beach: told(" + what + ")", new BathingCourt().told(what), Check.OUTSIDE);
            Check.due("told(" + what + ")", busy().told(what), Check.OUTSIDE);
        }
    }

    /** The most that each of them can be. */
    private static void toldFullest() {
        BathingCourt x = Check.court("b0" + ",0".repeat(11) + ";h1;h1;h1;h1;" + "c1 1 9 999;".repeat(5));
        Check.feed(x, " ".repeat(240));
        for (int c = 0; c < 5; c++) {
            Check.due("told(5), so many wait", x.told(5), 31 & -1 << c);
            x.bring(c, c % 4);
            x.hour(1);
        }
        for (int i = 0; i < 12; i++) {
            x.hour(60);
        }
        for (int i = 0; i < 7; i++) {
            x.shout(9, true);
        }
        for (int i = 0; i < 16; i++) {
            x.write(0, 0);
        }
        int[] want = {12, 4, 5, 240, 725, 0, 31, 0, 0, 4995, 6, 15, 20};
        for (int what = 0; what <= 12; what++) {
            Check.due("told(" + what + ")", x.told(what), want[what]);
        }
    }

    /** A court in which everything that a beach begins anew is something else. */
    private static BathingCourt busy() {
        BathingCourt x = Check.court("b0,2;h9;h3;h1;c1 2 1 7;c2 1 9 50;c1 1 0 30;c9 1 0 5;c1 4 9 999;");
        x.seed(99);
        x.keep(1);
        x.bring(4, 1);
        x.hour(1);
        x.keep(0);
        x.drift(3);
        x.settle(3);
        x.drawTo(0, x.hut(0, 1) == 9 ? 8 : 9);
        x.drawTo(1, x.hut(1, 1) == 2 ? 3 : 2);
        x.shout(4, true);
        x.shout(2, false);
        x.write(0, 3);
        x.write(3, 3);
        return x;
    }

    private static BathingCourt good(String text, int tides, int huts, int cases) {
        BathingCourt x = new BathingCourt();
        Check.feed(x, text);
        Check.due("beach() of '" + text + "'", x.beach(), cases);
        Check.due("fault() of '" + text + "'", x.fault(), Check.NONE);
        Check.due("told(0) of '" + text + "'", x.told(0), tides);
        Check.due("told(1) of '" + text + "'", x.told(1), huts);
        Check.due("told(2) of '" + text + "'", x.told(2), cases);
        return x;
    }

    private static void bad(String text, int number, int place) {
        BathingCourt x = new BathingCourt();
        Check.feed(x, text);
        Check.due("beach() of '" + text + "'", x.beach(), -10 - number);
        Check.due("fault() of '" + text + "'", x.fault(), place);
        Check.due("told(0) of '" + text + "'", x.told(0), 0);
    }
}
