import java.util.Arrays;

/** A court held in bathing machines; ../shared/DOC.md says what each call promises. */
public final class BathingCourt {
    public static final int NONE = -1, UNKNOWN = -1000000001, OUTSIDE = -1000000002, NOT = -1000000003, FULL = -1000000004;

    private static final int CELLS = 10;
    private static final int GREATEST_DEPTH = 10;
    private static final int MOST_LETTERS = 240;
    private static final int MOST_TIDES = 12;
    private static final int MOST_HUTS = 4;
    private static final int MOST_CASES = 5;
    private static final int MOST_IMAGES = 2;
    private static final int MOST_UNDONE = 20;
    private static final int MOST_SHOUTS = 6;
    private static final int MOST_ENTRIES = 15;

    private static final int MOST_HOURS_A_CALL = 60;
    private static final int LAST_HOUR_TO_GO_ON = 9000;
    private static final int HOURS_LOOKED_AHEAD = 100;
    private static final int HOURS_TO_COME_THERE = 30;
    private static final int HOURS_PLANNED = 12;
    private static final int MOST_DAYS = 60;
    private static final int HUNDRED = 100;
    private static final int MOST_COSTS = 999;
    private static final long BILLION = 1000000000L;

    private static final int WAITING = 0, IN_A_HUT = 1, JUDGED = 2, SETTLED = 3, BROKE_OFF = 4;

    private final Reader reader = new Reader();
    private final Day day = new Day();
    private final Past past = new Past();
    private final Images images = new Images();
    private final Planner planner = new Planner();
    private final Ear ear = new Ear();
    private final Book book = new Book();
    private final Draws draws = new Draws();
    private Beach shore = new Beach();
    /** A text is read into this one, so that a faulty text leaves the beach as it was. */
    private Beach spare = new Beach();

    public BathingCourt() {
    }

    // ---- the beach

    public int feed(int letter) {
        if (isOutside(letter, 0, 255)) {
            return OUTSIDE;
        }
        if (reader.length >= MOST_LETTERS) {
            return FULL;
        }
        return reader.add(letter);
    }

    public int beach() {
        reader.readInto(spare);
        if (reader.faultNumber != 0) {
            return -10 - reader.faultNumber;
        }
        Beach former = shore;
        shore = spare;
        spare = former;
        day.begin();
        past.forget();
        images.forget();
        ear.forget();
        book.forget();
        return shore.cases;
    }

    public int fault() {
        return reader.faultPlace;
    }

    public int told(int what) {
        switch (what) {
            case 0: return shore.tides;
            case 1: return shore.huts;
            case 2: return shore.cases;
            case 3: return reader.length;
            case 4: return day.hours;
            case 5: return day.setOf(WAITING, shore.cases);
            case 6: return day.setOf(JUDGED, shore.cases);
            case 7: return day.setOf(SETTLED, shore.cases);
            case 8: return day.setOf(BROKE_OFF, shore.cases);
            case 9: return owed();
            case 10: return ear.shouts;
            case 11: return book.entries;
            case 12: return past.kept;
            default: return OUTSIDE;
        }
    }

    public int depth(int x, int n) {
        if (isNoCell(x) || isOutside(n, 0, 99)) {
            return OUTSIDE;
        }
        if (!shore.stands()) {
            return NOT;
        }
        return depthBehind(x, n);
    }

    public int hut(int h, int what) {
        if (!shore.hasHut(h)) {
            return UNKNOWN;
        }
        switch (what) {
            case 0: return shore.pace[h];
            case 1: return day.cell[h];
            case 2: return day.inside[h];
            case 3: return day.drawn[h];
            default: return OUTSIDE;
        }
    }

    public int legal(int c, int what) {
        if (!shore.hasCase(c)) {
            return UNKNOWN;
        }
        switch (what) {
            case 0: return shore.toldAt[c];
            case 1: return shore.lasts[c];
            case 2: return shore.bearsMore[c];
            case 3: return shore.suedFor[c];
            case 4: return day.state[c];
            case 5: return day.heard[c];
            default: return OUTSIDE;
        }
    }

    // ---- what is done

    public int hour(int n) {
        int refusal = refusalOfHours(n);
        if (refusal != 0) {
            return refusal;
        }
        past.push(day);
        for (int i = 0; i < n; i++) {
            day.passHour(shore);
        }
        return day.hours;
    }

    public int bring(int c, int h) {
        if (!shore.hasCase(c) || !shore.hasHut(h)) {
            return UNKNOWN;
        }
        if (!day.canEnter(c, h)) {
            return NOT;
        }
        past.push(day);
        day.enter(c, h);
        return day.setOf(WAITING, shore.cases);
    }

    public int drawTo(int h, int x) {
        if (!shore.hasHut(h)) {
            return UNKNOWN;
        }
        if (isNoCell(x)) {
            return OUTSIDE;
        }
        if (!day.canMove(h, x, shore.pace[h])) {
            return NOT;
        }
        past.push(day);
        day.move(h, x);
        return depthBehind(x, 0);
    }

    public int settle(int c) {
        if (!shore.hasCase(c)) {
            return UNKNOWN;
        }
        if (day.state[c] != WAITING && day.state[c] != IN_A_HUT) {
            return NOT;
        }
        past.push(day);
        day.endCase(c, SETTLED);
        return shore.suedFor[c];
    }

    public int drift(int n) {
        int refusal = refusalOfHours(n);
        if (refusal != 0) {
            return refusal;
        }
        past.push(day);
        for (int i = 0; i < n; i++) {
            actByDraws();
            day.passHour(shore);
        }
        return day.setOf(JUDGED, shore.cases);
    }

    public int undo() {
        if (past.kept == 0) {
            return NOT;
        }
        past.pop(day);
        return past.kept;
    }

    // ---- tried

    public int open(int c) {
        if (!shore.hasCase(c)) {
            return UNKNOWN;
        }
        return shore.hoursOpen(c, day.hours);
    }

    public int plan(int m, int c) {
        if (c != NONE && !shore.hasCase(c)) {
            return UNKNOWN;
        }
        if (isOutside(m, 1, MOST_HUTS)) {
            return OUTSIDE;
        }
        planner.search(shore, day, m);
        return c == NONE ? planner.hoursForAll() : planner.beginOf(c);
    }

    public int dry(int x) {
        if (isNoCell(x)) {
            return OUTSIDE;
        }
        if (!shore.stands()) {
            return NOT;
        }
        for (int n = 0; n <= HOURS_LOOKED_AHEAD; n++) {
            if (depthBehind(x, n) == 0) {
                return n;
            }
        }
        return NONE;
    }

    public int stays(int x, int d) {
        if (isNoCell(x) || isNoDepth(d)) {
            return OUTSIDE;
        }
        if (!shore.stands()) {
            return NOT;
        }
        for (int n = 0; n < HOURS_LOOKED_AHEAD; n++) {
            if (depthBehind(x, n) > d) {
                return n;
            }
        }
        return HOURS_LOOKED_AHEAD;
    }

    public int spot(int d) {
        if (isNoDepth(d)) {
            return OUTSIDE;
        }
        if (!shore.stands()) {
            return NOT;
        }
        for (int x = 0; x < CELLS; x++) {
            if (depthBehind(x, 0) == d) {
                return x;
            }
        }
        return NONE;
    }

    public int soonest(int h, int c) {
        if (!shore.hasHut(h) || !shore.hasCase(c)) {
            return UNKNOWN;
        }
        int cell = day.cell[h];
        int pace = shore.pace[h];
        int reach = day.drawn[h] == 0 ? pace : 0;
        for (int n = 0; n <= HOURS_TO_COME_THERE; n++) {
            if (shore.suitsWithin(c, cell - reach, cell + reach, day.hours + n)) {
                return n;
            }
            reach += pace;
        }
        return NONE;
    }

    public int offer(int c, int odds, int costs, int what) {
        if (!shore.hasCase(c)) {
            return UNKNOWN;
        }
        if (isOutside(odds, 0, HUNDRED) || isOutside(costs, 0, MOST_COSTS) || isOutside(what, 0, 1)) {
            return OUTSIDE;
        }
        int worth = shore.suedFor[c] * odds / HUNDRED;
        return what == 0 ? Math.max(0, worth - costs) : worth + costs;
    }

    public int calm(int n, int q) {
        if (isOutside(n, 0, MOST_DAYS) || isOutside(q, 0, HUNDRED)) {
            return OUTSIDE;
        }
        long odds = BILLION;
        for (int i = 0; i < n; i++) {
            odds = odds * (HUNDRED - q) / HUNDRED;
        }
        return (int) odds;
    }

    // ---- shouts

    public int shout(int depth, boolean shouted) {
        if (isNoDepth(depth)) {
            return OUTSIDE;
        }
        if (ear.shouts >= MOST_SHOUTS) {
            return FULL;
        }
        return ear.add(depth, shouted);
    }

    public int bears() {
        return ear.allThatFits();
    }

    public int listen() {
        return ear.bestDepth();
    }

    public int write(int c, int is) {
        if (!shore.hasCase(c)) {
            return UNKNOWN;
        }
        if (isOutside(is, WAITING, BROKE_OFF)) {
            return OUTSIDE;
        }
        if (book.entries >= MOST_ENTRIES) {
            return FULL;
        }
        return book.add(c, is);
    }

    public int tear() {
        int both = ear.shouts + book.entries;
        ear.forget();
        book.forget();
        return both;
    }

    public int judge() {
        return book.firstWrong(day);
    }

    // ---- draws, images

    public int seed(int v) {
        if (v < 0) {
            return OUTSIDE;
        }
        int former = draws.current;
        draws.current = v;
        return former;
    }

    public int keep(int i) {
        if (isNoImage(i)) {
            return UNKNOWN;
        }
        images.take(i, day, draws.current);
        past.forget();
        return 1;
    }

    public int goBack(int i) {
        if (isNoImage(i)) {
            return UNKNOWN;
        }
        if (!images.taken[i]) {
            return NOT;
        }
        images.show(i, day);
        draws.current = images.seeds[i];
        past.forget();
        return 1;
    }

    // ---- what several calls need

    private static boolean isOutside(int value, int least, int most) {
        return value < least || value > most;
    }

    private static boolean isNoCell(int x) {
        return isOutside(x, 0, CELLS - 1);
    }

    private static boolean isNoDepth(int d) {
        return isOutside(d, 0, GREATEST_DEPTH);
    }

    private static boolean isNoImage(int i) {
        return isOutside(i, 0, MOST_IMAGES - 1);
    }

    private int depthBehind(int x, int n) {
        return shore.depthAt(x, day.hours + n);
    }

    private int owed() {
        int sum = 0;
        for (int c = 0; c < shore.cases; c++) {
            if (day.state[c] == JUDGED) {
                sum += shore.suedFor[c];
            }
        }
        return sum;
    }

    /** 0 if n hours may pass now. */
    private int refusalOfHours(int n) {
        if (isOutside(n, 1, MOST_HOURS_A_CALL)) {
            return OUTSIDE;
        }
        if (!shore.stands()) {
            return NOT;
        }
        return day.hours > LAST_HOUR_TO_GO_ON ? FULL : 0;
    }

    private void actByDraws() {
        int h = draws.next(shore.huts);
        if (!shore.hasHut(h)) {
            return;
        }
        int x = draws.next(CELLS);
        if (day.canMove(h, x, shore.pace[h])) {
            day.move(h, x);
        }
        int c = draws.next(shore.cases);
        if (shore.hasCase(c) && day.canEnter(c, h)) {
            day.enter(c, h);
        }
    }

    /** What a text tells: it stays the same until another text is read. */
    private static final class Beach {
        final int[] tide = new int[MOST_TIDES];
        final int[] pace = new int[MOST_HUTS];
        final int[] toldAt = new int[MOST_CASES];
        final int[] lasts = new int[MOST_CASES];
        final int[] bearsMore = new int[MOST_CASES];
        final int[] suedFor = new int[MOST_CASES];
        int tides;
        int huts;
        int cases;

        void clear() {
            tides = 0;
            huts = 0;
            cases = 0;
        }

        void addTide(int begins) {
            if (tides < MOST_TIDES) {
                tide[tides] = begins;
                tides++;
            }
        }

        void addHut(int cellsAnHour) {
            if (huts < MOST_HUTS) {
                pace[huts] = cellsAnHour;
                huts++;
            }
        }

        void addCase(int depth, int hours, int more, int sum) {
            if (cases < MOST_CASES) {
                toldAt[cases] = depth;
                lasts[cases] = hours;
                bearsMore[cases] = more;
                suedFor[cases] = sum;
                cases++;
            }
        }

        boolean stands() {
            return tides > 0;
        }

        boolean hasHut(int h) {
            return h >= 0 && h < huts;
        }

        boolean hasCase(int c) {
            return c >= 0 && c < cases;
        }

        int depthAt(int x, int hour) {
            if (tides <= 0 || hour < 0) {
                return 0;
            }
            return Math.max(0, x + 1 - tide[hour % tides]);
        }

        boolean isTooDeep(int c, int depth) {
            return depth > toldAt[c] + bearsMore[c];
        }

        boolean isDeepEnough(int c, int depth) {
            return depth >= toldAt[c];
        }

        /** Cells that there are not are passed over. */
        boolean suitsWithin(int c, int from, int to, int hour) {
            int last = Math.min(to, CELLS - 1);
            for (int x = Math.max(from, 0); x <= last; x++) {
                int depth = depthAt(x, hour);
                if (isDeepEnough(c, depth) && !isTooDeep(c, depth)) {
                    return true;
                }
            }
            return false;
        }

        int hoursOpen(int c, int now) {
            int set = 0;
            for (int n = 0; n < HOURS_PLANNED; n++) {
                if (suitsWithin(c, 0, CELLS - 1, now + n)) {
                    set |= 1 << n;
                }
            }
            return set;
        }
    }

    /** The text, and the first fault that its latest reading found. */
    private static final class Reader {
        private static final int NO_LETTER = -1;
        private static final int MOST_FIGURES = 3;
        private static final int CANNOT_STAND = 1, BAD_NUMBER = 2, ONE_TOO_MANY = 3;

        private final int[] text = new int[MOST_LETTERS];
        private int place;
        int length;
        int faultNumber;
        int faultPlace = NONE;

        int add(int letter) {
            if (length < MOST_LETTERS) {
                text[length] = letter;
                length++;
            }
            return length;
        }

        void readInto(Beach into) {
            place = 0;
            faultNumber = 0;
            faultPlace = NONE;
            into.clear();
            skipBlanks();
            // No clause is shorter than a letter, so the text's length bounds their number.
            for (int i = 0; i < MOST_LETTERS && place < length && faultNumber == 0; i++) {
                readClause(into);
                skipBlanks();
            }
            length = 0;
        }

        private void readClause(Beach into) {
            int at = place;
            int word = letter();
            place++;
            if (word == 'b') {
                readTide(into, at);
            } else if (word == 'h' && into.stands()) {
                readHut(into, at);
            } else if (word == 'c' && into.stands()) {
                readCase(into, at);
            } else {
                note(CANNOT_STAND, at);
            }
        }

        private void readTide(Beach into, int at) {
            if (into.stands()) {
                note(ONE_TOO_MANY, at);
                return;
            }
            boolean goesOn = true;
            for (int i = 0; i < MOST_TIDES && goesOn; i++) {
                into.addTide(readNumber(0, 9));
                // Behind the last that may come, a comma is left to be the fault.
                goesOn = into.tides < MOST_TIDES && passes(',');
            }
            demandEnd();
        }

        private void readHut(Beach into, int at) {
            if (into.huts >= MOST_HUTS) {
                note(ONE_TOO_MANY, at);
                return;
            }
            into.addHut(readNumber(1, 9));
            demandEnd();
        }

        private void readCase(Beach into, int at) {
            if (into.cases >= MOST_CASES) {
                note(ONE_TOO_MANY, at);
                return;
            }
            int depth = readNumber(1, 9);
            int hours = readNumber(1, 4);
            int more = readNumber(0, 9);
            int sum = readNumber(0, 999);
            into.addCase(depth, hours, more, sum);
            demandEnd();
        }

        private int readNumber(int least, int most) {
            skipBlanks();
            int first = place;
            int value = 0;
            while (place < length && isFigure(letter())) {
                if (place - first < MOST_FIGURES) {
                    value = value * 10 + letter() - '0';
                }
                place++;
            }
            if (place == first) {
                note(CANNOT_STAND, first);
            } else if (place - first > MOST_FIGURES || value < least || value > most) {
                note(BAD_NUMBER, first);
            }
            return value;
        }

        private void demandEnd() {
            if (!passes(';')) {
                note(CANNOT_STAND, place);
            }
        }

        private boolean passes(int sign) {
            skipBlanks();
            if (letter() != sign) {
                return false;
            }
            place++;
            return true;
        }

        private void skipBlanks() {
            while (place < length && letter() == ' ') {
                place++;
            }
        }

        private int letter() {
            return place >= 0 && place < length && place < MOST_LETTERS ? text[place] : NO_LETTER;
        }

        private static boolean isFigure(int sign) {
            return sign >= '0' && sign <= '9';
        }

        /** Reading goes forward and the rest of a clause is still read, so only the first one counts. */
        private void note(int number, int at) {
            if (faultNumber == 0) {
                faultNumber = number;
                faultPlace = at;
            }
        }
    }

    /** All that section 2 of the document tells: what an hour, a hut, a case are now. */
    private static final class Day {
        /** How many numbers a kept day takes. */
        static final int SIZE = 1 + 3 * MOST_HUTS + 2 * MOST_CASES;

        final int[] cell = new int[MOST_HUTS];
        final int[] inside = new int[MOST_HUTS];
        final int[] drawn = new int[MOST_HUTS];
        final int[] state = new int[MOST_CASES];
        final int[] heard = new int[MOST_CASES];
        int hours;

        Day() {
            Arrays.fill(inside, NONE);
        }

        void begin() {
            hours = 0;
            Arrays.fill(cell, 0);
            Arrays.fill(inside, NONE);
            Arrays.fill(drawn, 0);
            Arrays.fill(state, WAITING);
            Arrays.fill(heard, 0);
        }

        int setOf(int which, int cases) {
            int set = 0;
            for (int c = 0; c < cases && c < MOST_CASES; c++) {
                if (state[c] == which) {
                    set |= 1 << c;
                }
            }
            return set;
        }

        boolean canEnter(int c, int h) {
            return state[c] == WAITING && inside[h] == NONE && cell[h] == 0;
        }

        void enter(int c, int h) {
            state[c] = IN_A_HUT;
            inside[h] = c;
        }

        boolean canMove(int h, int x, int pace) {
            return drawn[h] == 0 && x != cell[h] && Math.abs(x - cell[h]) <= pace;
        }

        void move(int h, int x) {
            cell[h] = x;
            drawn[h] = 1;
        }

        void endCase(int c, int how) {
            state[c] = how;
            for (int h = 0; h < MOST_HUTS; h++) {
                if (inside[h] == c) {
                    inside[h] = NONE;
                }
            }
        }

        void passHour(Beach shore) {
            for (int h = 0; h < shore.huts && h < MOST_HUTS; h++) {
                if (shore.hasCase(inside[h])) {
                    hearCase(shore, inside[h], shore.depthAt(cell[h], hours));
                }
                drawn[h] = 0;
            }
            hours++;
        }

        private void hearCase(Beach shore, int c, int depth) {
            if (shore.isTooDeep(c, depth)) {
                endCase(c, BROKE_OFF);
            } else if (shore.isDeepEnough(c, depth)) {
                heard[c]++;
                if (heard[c] >= shore.lasts[c]) {
                    endCase(c, JUDGED);
                }
            }
        }

        void saveTo(int[] rows, int at) {
            if (at < 0 || at > rows.length - SIZE) {
                return;
            }
            System.arraycopy(cell, 0, rows, at, MOST_HUTS);
            System.arraycopy(inside, 0, rows, at + MOST_HUTS, MOST_HUTS);
            System.arraycopy(drawn, 0, rows, at + 2 * MOST_HUTS, MOST_HUTS);
            System.arraycopy(state, 0, rows, at + 3 * MOST_HUTS, MOST_CASES);
            System.arraycopy(heard, 0, rows, at + 3 * MOST_HUTS + MOST_CASES, MOST_CASES);
            rows[at + SIZE - 1] = hours;
        }

        void loadFrom(int[] rows, int at) {
            if (at < 0 || at > rows.length - SIZE) {
                return;
            }
            System.arraycopy(rows, at, cell, 0, MOST_HUTS);
            System.arraycopy(rows, at + MOST_HUTS, inside, 0, MOST_HUTS);
            System.arraycopy(rows, at + 2 * MOST_HUTS, drawn, 0, MOST_HUTS);
            System.arraycopy(rows, at + 3 * MOST_HUTS, state, 0, MOST_CASES);
            System.arraycopy(rows, at + 3 * MOST_HUTS + MOST_CASES, heard, 0, MOST_CASES);
            hours = rows[at + SIZE - 1];
        }
    }

    /** The days that can be undone, in a ring, so that the oldest is lost by itself. */
    private static final class Past {
        private final int[] rows = new int[MOST_UNDONE * Day.SIZE];
        private int newest;
        int kept;

        void push(Day day) {
            newest = (newest + 1) % MOST_UNDONE;
            day.saveTo(rows, newest * Day.SIZE);
            kept = Math.min(kept + 1, MOST_UNDONE);
        }

        void pop(Day day) {
            if (kept > 0) {
                day.loadFrom(rows, newest * Day.SIZE);
                newest = (newest + MOST_UNDONE - 1) % MOST_UNDONE;
                kept--;
            }
        }

        void forget() {
            kept = 0;
        }
    }

    private static final class Images {
        private final int[] rows = new int[MOST_IMAGES * Day.SIZE];
        final int[] seeds = new int[MOST_IMAGES];
        final boolean[] taken = new boolean[MOST_IMAGES];

        void take(int i, Day day, int seed) {
            day.saveTo(rows, i * Day.SIZE);
            seeds[i] = seed;
            taken[i] = true;
        }

        void show(int i, Day day) {
            day.loadFrom(rows, i * Day.SIZE);
        }

        void forget() {
            for (int i = 0; i < MOST_IMAGES; i++) {
                taken[i] = false;
            }
        }
    }

    /** Finds the plan that ends soonest; it tries begins in order, so the first of like ones comes first. */
    private static final class Planner {
        private static final int NO_PLAN = HOURS_PLANNED + 1;

        private final boolean[] waits = new boolean[MOST_CASES];
        private final int[] lasts = new int[MOST_CASES];
        /** For each case a SET: hours in which it could begin if it were alone. */
        private final int[] room = new int[MOST_CASES];
        private final int[] begins = new int[MOST_CASES];
        private final int[] bestBegins = new int[MOST_CASES];
        private final int[] busyHuts = new int[HOURS_PLANNED];
        private int huts;
        private int leastEnd;
        private int bestEnd = NO_PLAN;

        void search(Beach shore, Day day, int m) {
            huts = m;
            leastEnd = 0;
            bestEnd = NO_PLAN;
            Arrays.fill(busyHuts, 0);
            Arrays.fill(begins, NONE);
            Arrays.fill(bestBegins, NONE);
            int hoursOfAll = 0;
            for (int c = 0; c < MOST_CASES; c++) {
                waits[c] = shore.hasCase(c) && day.state[c] == WAITING;
                if (waits[c]) {
                    lookAtAlone(c, shore.lasts[c], shore.hoursOpen(c, day.hours));
                    hoursOfAll += shore.lasts[c];
                }
            }
            leastEnd = Math.max(leastEnd, m <= 0 ? NO_PLAN : (hoursOfAll + m - 1) / m);
            placeFrom(this, 0, 0);
        }

        int hoursForAll() {
            return bestEnd == NO_PLAN ? NONE : bestEnd;
        }

        int beginOf(int c) {
            return bestBegins[c];
        }

        private void lookAtAlone(int c, int hours, int open) {
            int set = open;
            for (int n = 1; n < hours; n++) {
                set &= open >> n;
            }
            lasts[c] = hours;
            room[c] = set;
            int soonestEnd = set == 0 ? NO_PLAN : Integer.numberOfTrailingZeros(set) + hours;
            leastEnd = Math.max(leastEnd, soonestEnd);
        }

        private static void placeFrom(Planner p, int c, int end) {
            if (c < 0 || c >= MOST_CASES) {
                p.keepIfSooner(end);
                return;
            }
            if (!p.waits[c]) {
                placeFrom(p, c + 1, end);
                return;
            }
            for (int b = 0; b < HOURS_PLANNED && p.canBeSooner(Math.max(end, b + p.lasts[c])); b++) {
                if (p.fits(c, b)) {
                    p.begins[c] = b;
                    p.occupy(c, b, 1);
                    placeFrom(p, c + 1, Math.max(end, b + p.lasts[c]));
                    p.occupy(c, b, -1);
                }
            }
        }

        /** Without this the search would go on through thousands of plans that cannot be the best. */
        private boolean canBeSooner(int end) {
            return end < bestEnd && leastEnd < bestEnd;
        }

        private void keepIfSooner(int end) {
            if (canBeSooner(end)) {
                bestEnd = end;
                System.arraycopy(begins, 0, bestBegins, 0, MOST_CASES);
            }
        }

        private boolean fits(int c, int begin) {
            if ((room[c] >> begin & 1) == 0) {
                return false;
            }
            for (int n = begin; n < begin + lasts[c] && n < HOURS_PLANNED; n++) {
                if (busyHuts[n] >= huts) {
                    return false;
                }
            }
            return true;
        }

        private void occupy(int c, int begin, int by) {
            for (int n = begin; n < begin + lasts[c] && n < HOURS_PLANNED; n++) {
                busyHuts[n] += by;
            }
        }
    }

    /** What was shouted by the unknown party. */
    private static final class Ear {
        private final int[] depths = new int[MOST_SHOUTS];
        private final boolean[] loud = new boolean[MOST_SHOUTS];
        int shouts;

        int add(int depth, boolean shouted) {
            if (shouts < MOST_SHOUTS) {
                depths[shouts] = depth;
                loud[shouts] = shouted;
                shouts++;
            }
            return shouts;
        }

        void forget() {
            shouts = 0;
        }

        int allThatFits() {
            int set = 0;
            for (int b = 0; b <= GREATEST_DEPTH; b++) {
                if (fitsAll(b)) {
                    set |= 1 << b;
                }
            }
            return set;
        }

        private boolean fitsAll(int borne) {
            for (int i = 0; i < shouts && i < MOST_SHOUTS; i++) {
                if ((depths[i] > borne) != loud[i]) {
                    return false;
                }
            }
            return true;
        }

        int bestDepth() {
            int set = allThatFits();
            int all = Integer.bitCount(set);
            int best = NONE;
            int leastPart = all;
            for (int d = 0; d <= GREATEST_DEPTH; d++) {
                int shouting = Integer.bitCount(set & ((1 << d) - 1));
                int part = Math.max(shouting, all - shouting);
                if (part < leastPart) {
                    leastPart = part;
                    best = d;
                }
            }
            return best;
        }
    }

    private static final class Book {
        private final int[] ofCase = new int[MOST_ENTRIES];
        private final int[] saysState = new int[MOST_ENTRIES];
        int entries;

        int add(int c, int is) {
            if (entries < MOST_ENTRIES) {
                ofCase[entries] = c;
                saysState[entries] = is;
                entries++;
            }
            return entries;
        }

        void forget() {
            entries = 0;
        }

        int firstWrong(Day day) {
            for (int i = 0; i < entries && i < MOST_ENTRIES; i++) {
                if (day.state[ofCase[i]] != saysState[i]) {
                    return i;
                }
            }
            return NONE;
        }
    }

    private static final class Draws {
        private static final long TWO_TO_THE_31 = 2147483648L;

        int current;

        /** The seed goes on only where there is something to draw from; NONE then is no hut and no case. */
        int next(int n) {
            if (n <= 0) {
                return NONE;
            }
            current = (int) ((current * 1103515245L + 12345L) % TWO_TO_THE_31);
            return current / 65536 % n;
        }
    }
}
