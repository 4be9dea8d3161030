import java.util.ArrayDeque;
import java.util.ArrayList;
import java.util.List;

/**
 * The document told once more, in the plainest way and with the Java library: RunsTest asks it and
 * BathingCourt the same. It shares no code with BathingCourt, and is slow on purpose (plans by
 * looking at every one, reach cell by cell, a text by its tokens).
 */
final class PlainCourt {
    static final int NONE = -1, UNKNOWN = -1000000001, OUTSIDE = -1000000002, NOT = -1000000003, FULL = -1000000004;

    private record Token(char kind, int value, int figures, int place) {
    }

    private record Case(int d, int l, int n, int w) {
    }

    private record Shout(int depth, boolean loud) {
    }

    private record Entry(int c, int is) {
    }

    private record Image(State state, long seed) {
    }

    /** Section 2. */
    private static final class State {
        int hours = 0;
        List<Integer> cell = new ArrayList<>();
        List<Integer> inside = new ArrayList<>();
        List<Boolean> drawn = new ArrayList<>();
        List<Integer> is = new ArrayList<>();
        List<Integer> heard = new ArrayList<>();

        State copy() {
            State s = new State();
            s.hours = hours;
            s.cell.addAll(cell);
            s.inside.addAll(inside);
            s.drawn.addAll(drawn);
            s.is.addAll(is);
            s.heard.addAll(heard);
            return s;
        }
    }

    private String text = "";
    private int faultPlace = NONE;
    private List<Integer> tide = new ArrayList<>();
    private List<Integer> huts = new ArrayList<>();
    private List<Case> cases = new ArrayList<>();
    private State state = new State();
    private final ArrayDeque<State> past = new ArrayDeque<>();
    private final Image[] images = new Image[2];
    private final List<Shout> shouts = new ArrayList<>();
    private final List<Entry> book = new ArrayList<>();
    private long seed = 0;

    int feed(int letter) {
        if (letter < 0 || letter > 255) {
            return OUTSIDE;
        }
        if (text.length() == 240) {
            return FULL;
        }
        text += (char) letter;
        return text.length();
    }

    private static List<Token> tokens(String text) {
        List<Token> all = new ArrayList<>();
        int i = 0;
        while (i < text.length()) {
            char sign = text.charAt(i);
            if (sign >= '0' && sign <= '9') {
                int first = i;
                while (i < text.length() && text.charAt(i) >= '0' && text.charAt(i) <= '9') {
                    i++;
                }
                int figures = i - first;
                all.add(new Token('0', figures > 3 ? 1000 : Integer.parseInt(text.substring(first, i)), figures, first));
            } else {
                if (sign != ' ') {
                    all.add(new Token(sign, 0, 0, i));
                }
                i++;
            }
        }
        all.add(new Token('$', 0, 0, text.length()));
        return all;
    }

    /** What may stand next is told by where one is: S a clause, T P D L N W a number, t ',' or ';', e ';'. */
    int beach() {
        List<Integer> newTide = new ArrayList<>();
        List<Integer> newHuts = new ArrayList<>();
        List<Case> newCases = new ArrayList<>();
        List<Token> all = tokens(text);
        String whole = text;
        text = "";
        faultPlace = NONE;
        char where = 'S';
        int[] numbers = new int[3];
        for (Token t : all) {
            int fault = 0;
            boolean end = t.kind == '$' && t.place == whole.length();
            if (where == 'S') {
                if (end) {
                    break;
                }
                boolean first = newTide.isEmpty();
                if (t.kind == 'b') {
                    fault = first ? 0 : 3;
                    where = 'T';
                } else if (t.kind == 'h' && !first) {
                    fault = newHuts.size() == 4 ? 3 : 0;
                    where = 'P';
                } else if (t.kind == 'c' && !first) {
                    fault = newCases.size() == 5 ? 3 : 0;
                    where = 'D';
                } else {
                    fault = 1;
                }
            } else if (where == 't') {
                if (t.kind == ',' && newTide.size() < 12) {
                    where = 'T';
                } else if (t.kind == ';') {
                    where = 'S';
                } else {
                    fault = 1;
                }
            } else if (where == 'e') {
                fault = t.kind == ';' ? 0 : 1;
                where = 'S';
            } else if (t.kind != '0') {
                fault = 1;
            } else {
                int least = "PDL".indexOf(where) >= 0 ? 1 : 0;
                int most = where == 'L' ? 4 : where == 'W' ? 999 : 9;
                fault = t.figures > 3 || t.value < least || t.value > most ? 2 : 0;
                switch (where) {
                    case 'T' -> {
                        newTide.add(t.value);
                        where = 't';
                    }
                    case 'P' -> {
                        newHuts.add(t.value);
                        where = 'e';
                    }
                    case 'W' -> {
                        newCases.add(new Case(numbers[0], numbers[1], numbers[2], t.value));
                        where = 'e';
                    }
                    default -> {
                        int k = "DLN".indexOf(where);
                        numbers[k] = t.value;
                        where = "LNW".charAt(k);
                    }
                }
            }
            if (fault != 0) {
                faultPlace = t.place;
                return -10 - fault;
            }
        }
        tide = newTide;
        huts = newHuts;
        cases = newCases;
        state = new State();
        for (int h = 0; h < huts.size(); h++) {
            state.cell.add(0);
            state.inside.add(NONE);
            state.drawn.add(false);
        }
        for (int c = 0; c < cases.size(); c++) {
            state.is.add(0);
            state.heard.add(0);
        }
        past.clear();
        images[0] = null;
        images[1] = null;
        shouts.clear();
        book.clear();
        return cases.size();
    }

    int fault() {
        return faultPlace;
    }

    private int set(int is) {
        int set = 0;
        for (int c = 0; c < cases.size(); c++) {
            if (state.is.get(c) == is) {
                set += 1 << c;
            }
        }
        return set;
    }

    int told(int what) {
        int owed = 0;
        for (int c = 0; c < cases.size(); c++) {
            owed += state.is.get(c) == 2 ? cases.get(c).w : 0;
        }
        int[] all = {tide.size(), huts.size(), cases.size(), text.length(), state.hours, set(0), set(2), set(3),
            set(4), owed, shouts.size(), book.size(), past.size()};
        return what < 0 || what > 12 ? OUTSIDE : all[what];
    }

    private int deep(int x, int hour) {
        int depth = x + 1 - tide.get(hour % tide.size());
        return depth < 0 ? 0 : depth;
    }

    private static boolean out(int v, int a, int b) {
        return v < a || v > b;
    }

    private boolean noHut(int h) {
        return out(h, 0, huts.size() - 1);
    }

    private boolean noCase(int c) {
        return out(c, 0, cases.size() - 1);
    }

    int depth(int x, int n) {
        return out(x, 0, 9) || out(n, 0, 99) ? OUTSIDE : tide.isEmpty() ? NOT : deep(x, state.hours + n);
    }

    int hut(int h, int what) {
        if (noHut(h)) {
            return UNKNOWN;
        }
        return switch (what) {
            case 0 -> huts.get(h);
            case 1 -> state.cell.get(h);
            case 2 -> state.inside.get(h);
            case 3 -> state.drawn.get(h) ? 1 : 0;
            default -> OUTSIDE;
        };
    }

    int legal(int c, int what) {
        if (noCase(c)) {
            return UNKNOWN;
        }
        return switch (what) {
            case 0 -> cases.get(c).d;
            case 1 -> cases.get(c).l;
            case 2 -> cases.get(c).n;
            case 3 -> cases.get(c).w;
            case 4 -> state.is.get(c);
            case 5 -> state.heard.get(c);
            default -> OUTSIDE;
        };
    }

    private void remember() {
        past.addLast(state.copy());
        if (past.size() > 20) {
            past.removeFirst();
        }
    }

    private void anHour() {
        for (int h = 0; h < huts.size(); h++) {
            int c = state.inside.get(h);
            if (c != NONE) {
                Case told = cases.get(c);
                int depth = deep(state.cell.get(h), state.hours);
                if (depth > told.d + told.n) {
                    state.is.set(c, 4);
                } else if (depth >= told.d) {
                    state.heard.set(c, state.heard.get(c) + 1);
                    if (state.heard.get(c) == told.l) {
                        state.is.set(c, 2);
                    }
                }
                if (state.is.get(c) != 1) {
                    state.inside.set(h, NONE);
                }
            }
            state.drawn.set(h, false);
        }
        state.hours++;
    }

    int hour(int n) {
        if (out(n, 1, 60)) {
            return OUTSIDE;
        }
        if (tide.isEmpty()) {
            return NOT;
        }
        if (state.hours > 9000) {
            return FULL;
        }
        remember();
        for (int i = 0; i < n; i++) {
            anHour();
        }
        return state.hours;
    }

    private boolean brought(int c, int h) {
        if (state.is.get(c) != 0 || state.inside.get(h) != NONE || state.cell.get(h) != 0) {
            return false;
        }
        state.is.set(c, 1);
        state.inside.set(h, c);
        return true;
    }

    private boolean drawn(int h, int x) {
        int way = Math.abs(state.cell.get(h) - x);
        if (way == 0 || way > huts.get(h) || state.drawn.get(h)) {
            return false;
        }
        state.cell.set(h, x);
        state.drawn.set(h, true);
        return true;
    }

    int bring(int c, int h) {
        if (noCase(c) || noHut(h)) {
            return UNKNOWN;
        }
        remembering();
        return brought(c, h) ? remembered(set(0)) : NOT;
    }

    int drawTo(int h, int x) {
        if (noHut(h)) {
            return UNKNOWN;
        }
        if (out(x, 0, 9)) {
            return OUTSIDE;
        }
        remembering();
        return drawn(h, x) ? remembered(deep(x, state.hours)) : NOT;
    }

    private State ahead;

    private void remembering() {
        ahead = state.copy();
    }

    private int remembered(int answer) {
        State now = state;
        state = ahead;
        remember();
        state = now;
        return answer;
    }

    int settle(int c) {
        if (noCase(c)) {
            return UNKNOWN;
        }
        if (state.is.get(c) > 1) {
            return NOT;
        }
        remember();
        state.is.set(c, 3);
        for (int h = 0; h < huts.size(); h++) {
            if (state.inside.get(h) == c) {
                state.inside.set(h, NONE);
            }
        }
        return cases.get(c).w;
    }

    private int drawOf(int n) {
        seed = (seed * 1103515245L + 12345L) % (1L << 31);
        return (int) (seed / 65536 % n);
    }

    int drift(int n) {
        if (out(n, 1, 60)) {
            return OUTSIDE;
        }
        if (tide.isEmpty()) {
            return NOT;
        }
        if (state.hours > 9000) {
            return FULL;
        }
        remember();
        for (int i = 0; i < n; i++) {
            if (!huts.isEmpty()) {
                int h = drawOf(huts.size());
                drawn(h, drawOf(10));
                if (!cases.isEmpty()) {
                    brought(drawOf(cases.size()), h);
                }
            }
            anHour();
        }
        return set(2);
    }

    int undo() {
        if (past.isEmpty()) {
            return NOT;
        }
        state = past.removeLast();
        return past.size();
    }

    private boolean suits(int c, int x, int hour) {
        int depth = deep(x, hour);
        return cases.get(c).d <= depth && depth <= cases.get(c).d + cases.get(c).n;
    }

    int open(int c) {
        if (noCase(c)) {
            return UNKNOWN;
        }
        int set = 0;
        for (int n = 0; n < 12; n++) {
            boolean some = false;
            for (int x = 0; x < 10; x++) {
                some = some || suits(c, x, state.hours + n);
            }
            set += some ? 1 << n : 0;
        }
        return set;
    }

    int plan(int m, int c) {
        if (c != NONE && noCase(c)) {
            return UNKNOWN;
        }
        if (out(m, 1, 4)) {
            return OUTSIDE;
        }
        List<Integer> waiting = new ArrayList<>();
        int many = 1;
        for (int k = 0; k < cases.size(); k++) {
            if (state.is.get(k) == 0) {
                waiting.add(k);
                many *= 12;
            }
        }
        int[] opens = new int[cases.size()];
        for (int k : waiting) {
            opens[k] = open(k);
        }
        int[] best = null;
        int bestEnd = 100;
        for (int number = 0; number < many; number++) {
            int[] begins = new int[waiting.size()];
            int rest = number;
            for (int k = waiting.size() - 1; k >= 0; k--) {
                begins[k] = rest % 12;
                rest /= 12;
            }
            int end = endOf(waiting, opens, begins, m);
            if (end < bestEnd) {
                bestEnd = end;
                best = begins;
            }
        }
        if (best == null || c != NONE && !waiting.contains(c)) {
            return NONE;
        }
        return c == NONE ? bestEnd : best[waiting.indexOf(c)];
    }

    /** 100 if it is no plan. */
    private int endOf(List<Integer> waiting, int[] opens, int[] begins, int m) {
        int[] used = new int[12];
        int end = 0;
        for (int k = 0; k < begins.length; k++) {
            int c = waiting.get(k);
            for (int n = begins[k]; n < begins[k] + cases.get(c).l; n++) {
                if (n >= 12 || (opens[c] & 1 << n) == 0 || ++used[n] > m) {
                    return 100;
                }
            }
            end = Math.max(end, begins[k] + cases.get(c).l);
        }
        return end;
    }

    int dry(int x) {
        if (out(x, 0, 9)) {
            return OUTSIDE;
        }
        if (tide.isEmpty()) {
            return NOT;
        }
        int n = 0;
        while (n <= 100 && deep(x, state.hours + n) > 0) {
            n++;
        }
        return n > 100 ? NONE : n;
    }

    int stays(int x, int d) {
        if (out(x, 0, 9) || out(d, 0, 10)) {
            return OUTSIDE;
        }
        if (tide.isEmpty()) {
            return NOT;
        }
        int n = 0;
        while (n < 100 && deep(x, state.hours + n) <= d) {
            n++;
        }
        return n;
    }

    int spot(int d) {
        if (out(d, 0, 10)) {
            return OUTSIDE;
        }
        if (tide.isEmpty()) {
            return NOT;
        }
        int found = NONE;
        for (int x = 9; x >= 0; x--) {
            found = deep(x, state.hours) == d ? x : found;
        }
        return found;
    }

    int soonest(int h, int c) {
        if (noHut(h) || noCase(c)) {
            return UNKNOWN;
        }
        boolean[] at = new boolean[10];
        at[state.cell.get(h)] = true;
        for (int n = 0; n <= 30; n++) {
            if (n > 0 || !state.drawn.get(h)) {
                boolean[] then = at.clone();
                for (int x = 0; x < 10; x++) {
                    for (int y = 0; y < 10; y++) {
                        then[y] = then[y] || at[x] && Math.abs(x - y) <= huts.get(h);
                    }
                }
                at = then;
            }
            for (int x = 0; x < 10; x++) {
                if (at[x] && suits(c, x, state.hours + n)) {
                    return n;
                }
            }
        }
        return NONE;
    }

    int offer(int c, int odds, int costs, int what) {
        if (noCase(c)) {
            return UNKNOWN;
        }
        if (out(odds, 0, 100) || out(costs, 0, 999) || out(what, 0, 1)) {
            return OUTSIDE;
        }
        int half = cases.get(c).w * odds / 100;
        if (what == 1) {
            return half + costs;
        }
        return half > costs ? half - costs : 0;
    }

    int calm(int n, int q) {
        if (out(n, 0, 60) || out(q, 0, 100)) {
            return OUTSIDE;
        }
        long odds = 1000000000L;
        for (int i = 0; i < n; i++) {
            odds = odds * (100 - q) / 100;
        }
        return (int) odds;
    }

    int shout(int depth, boolean loud) {
        if (out(depth, 0, 10)) {
            return OUTSIDE;
        }
        if (shouts.size() == 6) {
            return FULL;
        }
        shouts.add(new Shout(depth, loud));
        return shouts.size();
    }

    private List<Integer> borne() {
        List<Integer> all = new ArrayList<>();
        for (int b = 0; b <= 10; b++) {
            int borne = b;
            if (shouts.stream().allMatch(s -> s.loud == s.depth > borne)) {
                all.add(b);
            }
        }
        return all;
    }

    int bears() {
        return borne().stream().mapToInt(b -> 1 << b).sum();
    }

    int listen() {
        List<Integer> all = borne();
        int best = NONE;
        long bestPart = all.size();
        for (int d = 10; d >= 0; d--) {
            int at = d;
            long loud = all.stream().filter(b -> at > b).count();
            long part = Math.max(loud, all.size() - loud);
            if (loud > 0 && loud < all.size() && part <= bestPart) {
                bestPart = part;
                best = d;
            }
        }
        return best;
    }

    int write(int c, int is) {
        if (noCase(c)) {
            return UNKNOWN;
        }
        if (out(is, 0, 4)) {
            return OUTSIDE;
        }
        if (book.size() == 15) {
            return FULL;
        }
        book.add(new Entry(c, is));
        return book.size();
    }

    int tear() {
        int both = shouts.size() + book.size();
        shouts.clear();
        book.clear();
        return both;
    }

    int judge() {
        for (int i = 0; i < book.size(); i++) {
            if (state.is.get(book.get(i).c) != book.get(i).is) {
                return i;
            }
        }
        return NONE;
    }

    int seed(int v) {
        if (v < 0) {
            return OUTSIDE;
        }
        int former = (int) seed;
        seed = v;
        return former;
    }

    int keep(int i) {
        if (i != 0 && i != 1) {
            return UNKNOWN;
        }
        images[i] = new Image(state.copy(), seed);
        past.clear();
        return 1;
    }

    int goBack(int i) {
        if (i != 0 && i != 1) {
            return UNKNOWN;
        }
        if (images[i] == null) {
            return NOT;
        }
        state = images[i].state.copy();
        seed = images[i].seed;
        past.clear();
        return 1;
    }
}
