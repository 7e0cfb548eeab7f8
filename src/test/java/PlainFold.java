import java.util.ArrayDeque;
import java.util.ArrayList;
import java.util.Arrays;
import java.util.HashMap;
import java.util.LinkedHashSet;
import java.util.List;
import java.util.Map;
import java.util.Set;
import java.util.TreeSet;
import java.util.regex.Matcher;
import java.util.regex.Pattern;

/** The document once more, written with the library and with no care for speed, to be compared with. */
final class PlainFold {
    static final int NONE = -1000000, BAD = -1000001, STATE = -1000002, FULL = -1000003;

    record Hurdle(String sort, int left, int right, int tie) { }

    record Beast(String sort, int heavy) { }

    record Told(int pens, List<Hurdle> hurdles, List<Beast> beasts) { }

    /** How all is at one time; a run makes another one. */
    static final class Time {
        final Told told;
        boolean[] right;
        int[] pushed;
        int[] count;
        int[] heavy;

        Time(Told told) {
            this.told = told;
            right = new boolean[told.hurdles().size()];
            pushed = new int[told.hurdles().size()];
            count = new int[told.pens()];
            heavy = new int[told.pens()];
        }

        Time again() {
            Time t = new Time(told);
            t.right = right.clone();
            t.pushed = pushed.clone();
            t.count = count.clone();
            t.heavy = heavy.clone();
            return t;
        }

        static Time at(Told told, int stands) {
            Time t = new Time(told);
            for (int h = 0; h < t.right.length; h++) t.right[h] = (stands >> h & 1) == 1;
            return t;
        }

        int bits() {
            int b = 0;
            for (int h = 0; h < right.length; h++) if (right[h]) b += 1 << h;
            return b;
        }

        String key() {
            StringBuilder s = new StringBuilder(Arrays.toString(right));
            for (int h = 0; h < pushed.length; h++) {
                if (told.hurdles().get(h).sort().equals("stiff")) s.append(' ').append(pushed[h] % 3);
            }
            return s.toString();
        }

        boolean post(int h, int stuck) {
            return h == stuck || told.hurdles().get(h).sort().equals("post");
        }

        int go(int beast, int stuck) {
            String who = told.beasts().get(beast).sort();
            int place = 10 + told.hurdles().size() - 1;
            while (place >= 10) {
                int h = place - 10;
                Hurdle hurdle = told.hurdles().get(h);
                boolean was = right[h];
                boolean goes;
                if (who.equals("ewe")) {
                    pushed[h]++;
                    goes = was;
                    boolean turns = hurdle.sort().equals("swing") || hurdle.sort().equals("stiff") && pushed[h] % 3 == 0;
                    if (turns && !post(h, stuck)) right[h] = !was;
                } else if (who.equals("lamb") || post(h, stuck)) {
                    goes = was;
                } else {
                    goes = who.equals("ram") ? !was : who.equals("marked");
                    right[h] = goes;
                }
                if (right[h] != was && hurdle.tie() > 0 && !post(hurdle.tie() - 1, stuck)) {
                    right[hurdle.tie() - 1] = !right[hurdle.tie() - 1];
                }
                place = goes ? hurdle.right() : hurdle.left();
            }
            return place;
        }
    }

    private final int[][] rows = new int[8][];
    private final int[] lanes = new int[8];
    private final StringBuilder tape = new StringBuilder();
    private Time now = null;
    private final List<Time> past = new ArrayList<>();
    private final Time[] images = new Time[2];
    private List<Integer> trace = new ArrayList<>();
    private int fault = 0;
    private int status = 0;

    private int finding(int number) {
        status = number;
        return -1000010 - number;
    }

    private int fine(int answer) {
        status = 0;
        return answer;
    }

    private static boolean in(int v, int least, int most) {
        return v >= least && v <= most;
    }

    int row(int row, int lane, int n) {
        if (!in(row, 0, 7) || !in(lane, 0, 2) || n > 40) return BAD;
        if (n < 0) return finding(4);
        rows[row] = new int[n];
        lanes[row] = lane;
        return fine(n);
    }

    int set(int row, int i, int v) {
        if (!in(row, 0, 7)) return BAD;
        if (rows[row] == null) return finding(1);
        if (!in(i, 0, rows[row].length - 1)) return finding(2);
        int bits = 8 << lanes[row];
        rows[row][i] = v << (32 - bits) >> (32 - bits);
        return fine(rows[row][i]);
    }

    int copy(int a, int i, int b, int j, int n) {
        if (!in(a, 0, 7) || !in(b, 0, 7)) return BAD;
        if (rows[a] == null || rows[b] == null) return finding(1);
        if (lanes[a] != lanes[b]) return finding(5);
        if (i < 0 || j < 0 || n < 0 || (long) i + n > rows[a].length || (long) j + n > rows[b].length) return finding(2);
        int[] were = Arrays.copyOfRange(rows[a], i, i + n);
        for (int k = 0; k < n; k++) rows[b][j + k] = were[k];
        return fine(n);
    }

    int drop(int row) {
        if (!in(row, 0, 7)) return BAD;
        if (rows[row] == null) return finding(1);
        int had = rows[row].length;
        rows[row] = null;
        return fine(had);
    }

    int feed(long w, int n) {
        if (!in(n, 1, 8)) return BAD;
        if (tape.length() + n > 400) return FULL;
        for (int k = n; k > 0; k--) tape.append((char) (w >> 8 * (k - 1) & 255));
        return tape.length();
    }

    private record Token(String text, int place) { }

    private static final Pattern TOKENS = Pattern.compile("[a-z]+|[0-9]+|;|[^ \\n]", Pattern.DOTALL);

    /** A fault of the text: {number, place}; null if all was well, and then told has it. */
    private int[] reading(List<Told> told) {
        List<Token> tokens = new ArrayList<>();
        Matcher m = TOKENS.matcher(tape);
        while (m.find()) tokens.add(new Token(m.group(), m.start()));
        tokens.add(new Token("", tape.length()));
        ArrayDeque<Token> left = new ArrayDeque<>(tokens);
        List<Hurdle> hurdles = new ArrayList<>();
        List<Beast> beasts = new ArrayList<>();
        int pens = 0;
        if (!left.peek().text().equals("fold")) return new int[] {1, left.peek().place()};
        left.pop();
        int[] number = number(left, range(1, 6));
        if (number.length == 2) return number;
        pens = number[0];
        if (!left.peek().text().equals(";")) return new int[] {1, left.peek().place()};
        left.pop();
        boolean first = true;
        while (first || left.peek().text().equals("hurdle")) {
            if (!left.peek().text().equals("hurdle")) return new int[] {1, left.peek().place()};
            if (hurdles.size() == 5) return new int[] {3, left.peek().place()};
            first = false;
            left.pop();
            if (!List.of("swing", "stiff", "post").contains(left.peek().text())) return new int[] {1, left.peek().place()};
            String sort = left.pop().text();
            Set<Integer> ways = range(0, pens - 1);
            ways.addAll(range(10, 9 + hurdles.size()));
            int[] l = number(left, ways);
            if (l.length == 2) return l;
            int[] r = number(left, ways);
            if (r.length == 2) return r;
            int[] t = number(left, range(0, hurdles.size()));
            if (t.length == 2) return t;
            if (!left.peek().text().equals(";")) return new int[] {1, left.peek().place()};
            left.pop();
            hurdles.add(new Hurdle(sort, l[0], r[0], t[0]));
        }
        while (left.peek().text().equals("beast")) {
            if (beasts.size() == 8) return new int[] {3, left.peek().place()};
            left.pop();
            if (!List.of("ewe", "ram", "lamb", "blind", "marked").contains(left.peek().text())) return new int[] {1, left.peek().place()};
            String sort = left.pop().text();
            int[] heavy = number(left, range(1, 99));
            if (heavy.length == 2) return heavy;
            if (!left.peek().text().equals(";")) return new int[] {1, left.peek().place()};
            left.pop();
            beasts.add(new Beast(sort, heavy[0]));
        }
        if (left.size() > 1) return new int[] {1, left.peek().place()};
        told.add(new Told(pens, hurdles, beasts));
        return null;
    }

    private static Set<Integer> range(int least, int most) {
        Set<Integer> all = new TreeSet<>();
        for (int v = least; v <= most; v++) all.add(v);
        return all;
    }

    private static int[] number(ArrayDeque<Token> left, Set<Integer> fitting) {
        Token t = left.peek();
        if (!t.text().matches("[0-9]{1,3}")) return new int[] {1, t.place()};
        if (!fitting.contains(Integer.parseInt(t.text()))) return new int[] {2, t.place()};
        left.pop();
        return new int[] {Integer.parseInt(t.text())};
    }

    int fold() {
        List<Told> told = new ArrayList<>();
        int[] found = reading(told);
        tape.setLength(0);
        if (found != null) {
            fault = found[0];
            return -1000100 - found[1];
        }
        now = new Time(told.get(0));
        past.clear();
        return told.get(0).hurdles().size();
    }

    int fault() {
        return fault;
    }

    private boolean isBeast(int b) {
        return now != null && in(b, 0, now.told.beasts().size() - 1);
    }

    private boolean isPen(int p) {
        return now != null && in(p, 0, now.told.pens() - 1);
    }

    private int inPens() {
        return now == null ? 0 : Arrays.stream(now.count).sum();
    }

    private void keep() {
        past.add(now.again());
        if (past.size() > 24) past.remove(0);
    }

    int run(int beast) {
        if (!isBeast(beast)) return BAD;
        if (inPens() == 9999) return FULL;
        keep();
        int pen = now.go(beast, -1);
        now.count[pen]++;
        now.heavy[pen] += now.told.beasts().get(beast).heavy();
        return pen;
    }

    /** Refusals of a row's items; 0 if there is none. */
    private int items(int row, int i, int n, boolean pairs) {
        if (rows[row] == null) return finding(1);
        int all = pairs ? 2 * n : n;
        if (i < 0 || (long) i + all > rows[row].length) return finding(2);
        for (int k = 0; k < all; k++) {
            int item = rows[row][i + k];
            if (pairs && k % 2 == 1 ? !isPen(item) : !isBeast(item)) return BAD;
        }
        return 0;
    }

    int runs(int row, int i, int n) {
        if (now == null) return STATE;
        if (!in(row, 0, 7) || !in(n, 1, 24)) return BAD;
        int refused = items(row, i, n, false);
        if (refused != 0) return refused;
        if (inPens() + n > 9999) return FULL;
        int pen = 0;
        for (int k = 0; k < n; k++) pen = run(rows[row][i + k]);
        return fine(pen);
    }

    int dawn(int stands) {
        if (now == null) return STATE;
        if (!in(stands, 0, (1 << now.right.length) - 1)) return BAD;
        keep();
        int were = now.bits();
        now = Time.at(now.told, stands);
        return were;
    }

    int undo() {
        if (past.isEmpty()) return STATE;
        now = past.remove(past.size() - 1);
        return past.size();
    }

    int hurdle(int hurdle, int what) {
        if (now == null || !in(hurdle, 0, now.right.length - 1) || !in(what, 0, 5)) return BAD;
        Hurdle h = now.told.hurdles().get(hurdle);
        int sort = List.of("swing", "stiff", "post").indexOf(h.sort());
        return new int[] {h.left(), h.right(), h.tie(), sort, now.right[hurdle] ? 1 : 0, now.pushed[hurdle]}[what];
    }

    int heavy(int beast) {
        return isBeast(beast) ? now.told.beasts().get(beast).heavy() : BAD;
    }

    int pen(int pen, int what) {
        if (!isPen(pen) || !in(what, 0, 1)) return BAD;
        return (what == 0 ? now.count : now.heavy)[pen];
    }

    private boolean true_(Time t, int row, int i, int n, int stuck) {
        for (int k = 0; k < n; k++) if (t.go(rows[row][i + 2 * k], stuck) != rows[row][i + 2 * k + 1]) return false;
        return true;
    }

    int stood(int row, int i, int n, int what) {
        if (now == null) return STATE;
        if (!in(row, 0, 7) || !in(n, 0, 12) || !in(what, 0, 1)) return BAD;
        int refused = items(row, i, n, true);
        if (refused != 0) return refused;
        List<Integer> fit = new ArrayList<>();
        for (int s = 0; s < 1 << now.right.length; s++) if (true_(Time.at(now.told, s), row, i, n, -1)) fit.add(s);
        return fine(what == 0 ? fit.size() : fit.isEmpty() ? NONE : fit.get(0));
    }

    int ahead(int runs, int beast, int pen) {
        if (!isBeast(runs) || !isBeast(beast) || !isPen(pen)) return BAD;
        for (int t = 0; t <= 60; t++) {
            Time then = now.again();
            for (int k = 0; k < t; k++) then.go(runs, -1);
            if (then.go(beast, -1) == pen) return t;
        }
        return NONE;
    }

    /** For each standing the least of the shortest rows of beasts: level by level, all rows compared. */
    private Map<Integer, List<Integer>> ways() {
        Map<Integer, List<Integer>> best = new HashMap<>();
        best.put(now.bits(), List.of());
        Set<String> seen = new LinkedHashSet<>(Set.of(now.key()));
        Map<String, List<Integer>> level = new HashMap<>(Map.of(now.key(), List.of()));
        Map<String, Time> times = new HashMap<>(Map.of(now.key(), now));
        while (!level.isEmpty()) {
            Map<String, List<Integer>> next = new HashMap<>();
            for (String key : level.keySet()) {
                for (int b = 0; b < now.told.beasts().size(); b++) {
                    Time t = times.get(key).again();
                    t.go(b, -1);
                    if (seen.contains(t.key())) continue;
                    List<Integer> way = new ArrayList<>(level.get(key));
                    way.add(b);
                    times.put(t.key(), t);
                    next.merge(t.key(), way, PlainFold::lesser);
                }
            }
            for (String key : next.keySet()) {
                int bits = times.get(key).bits();
                List<Integer> way = next.get(key);
                if (!best.containsKey(bits)) best.put(bits, way);
                else if (best.get(bits).size() == way.size()) best.merge(bits, way, PlainFold::lesser);
            }
            seen.addAll(next.keySet());
            level = next;
        }
        return best;
    }

    private static List<Integer> lesser(List<Integer> a, List<Integer> b) {
        for (int k = 0; k < a.size(); k++) if (!a.get(k).equals(b.get(k))) return a.get(k) < b.get(k) ? a : b;
        return a;
    }

    int reached(int stands, int k) {
        if (now == null) return STATE;
        if (!in(stands, 0, (1 << now.right.length) - 1) || k < -1) return BAD;
        List<Integer> way = ways().get(stands);
        if (way == null || k >= way.size()) return NONE;
        return k == -1 ? way.size() : way.get(k);
    }

    int comes() {
        return now == null ? STATE : ways().size();
    }

    int round(int beast, int what) {
        if (!isBeast(beast) || !in(what, 0, 1)) return BAD;
        List<String> were = new ArrayList<>();
        Map<String, Integer> when = new HashMap<>();
        Time t = now.again();
        while (!when.containsKey(t.key())) {
            when.put(t.key(), were.size());
            were.add(t.key());
            t.go(beast, -1);
        }
        int tail = when.get(t.key());
        return what == 0 ? tail : were.size() - tail;
    }

    int sticks(int row, int i, int n) {
        if (now == null) return STATE;
        if (!in(row, 0, 7) || !in(n, 0, 12)) return BAD;
        int refused = items(row, i, n, true);
        if (refused != 0) return refused;
        int bits = 0;
        for (int h = 0; h < now.right.length; h++) if (true_(now.again(), row, i, n, h)) bits += 1 << h;
        return fine(bits);
    }

    private List<Integer> pensOf(Time t, int row, int i, int n) {
        List<Integer> pens = new ArrayList<>();
        for (int k = 0; k < n; k++) pens.add(t.go(rows[row][i + k], -1));
        return pens;
    }

    int theft(int beast, int row, int i, int n) {
        if (now == null) return STATE;
        if (!isBeast(beast) || !in(row, 0, 7) || !in(n, 0, 24)) return BAD;
        int refused = items(row, i, n, false);
        if (refused != 0) return refused;
        List<Integer> without = pensOf(now.again(), row, i, n);
        Time robbed = now.again();
        robbed.go(beast, -1);
        List<Integer> with = pensOf(robbed, row, i, n);
        int other = 0;
        for (int k = 0; k < n; k++) if (!with.get(k).equals(without.get(k))) other++;
        return fine(other);
    }

    int mixed(int row, int i, int n) {
        if (now == null) return STATE;
        if (!in(row, 0, 7) || !in(n, 0, 24)) return BAD;
        int refused = items(row, i, n, false);
        if (refused != 0) return refused;
        List<Integer> pens = pensOf(now.again(), row, i, n);
        int bits = 0;
        for (int p = 0; p < now.told.pens(); p++) {
            Set<String> sorts = new TreeSet<>();
            for (int k = 0; k < n; k++) if (pens.get(k) == p) sorts.add(now.told.beasts().get(rows[row][i + k]).sort());
            if (sorts.size() > 1) bits += 1 << p;
        }
        return fine(bits);
    }

    int image(int k) {
        if (!in(k, 0, 1)) return BAD;
        if (now == null) return STATE;
        images[k] = now.again();
        return 1;
    }

    int restore(int k) {
        if (!in(k, 0, 1)) return BAD;
        if (images[k] == null) return STATE;
        now = images[k].again();
        past.clear();
        return 1;
    }

    /** The kinds as Java would have them: what is lent, and what overrides it. */
    private class Asked {
        final int number;

        Asked(int number) {
            this.number = number;
        }

        void begins(int body) {
            trace.add(body);
        }

        int size() {
            begins(10);
            return now.told.beasts().get(number).heavy();
        }

        int mark() {
            begins(20);
            return number;
        }
    }

    private class Ewe extends Asked {
        Ewe(int number) {
            super(number);
        }

        @Override int size() {
            begins(11);
            return super.size() + mark();
        }

        @Override int mark() {
            begins(21);
            return super.mark() + now.again().go(number, -1);
        }
    }

    private class Ram extends Ewe {
        Ram(int number) {
            super(number);
        }

        @Override int size() {
            begins(12);
            return 0 - super.size();
        }

        @Override int mark() {
            begins(24);
            return super.mark() * 2;
        }
    }

    private class Lamb extends Ewe {
        Lamb(int number) {
            super(number);
        }

        @Override int mark() {
            begins(22);
            return super.mark() - 1000;
        }
    }

    private class Blind extends Asked {
        Blind(int number) {
            super(number);
        }

        @Override int size() {
            begins(13);
            return super.size() - 100;
        }

        @Override int mark() {
            begins(23);
            return super.mark() - size();
        }
    }

    private class Marked extends Blind {
        Marked(int number) {
            super(number);
        }

        @Override int size() {
            begins(14);
            return super.size() * 2;
        }
    }

    private Asked asked(int beast) {
        switch (now.told.beasts().get(beast).sort()) {
            case "ewe": return new Ewe(beast);
            case "ram": return new Ram(beast);
            case "lamb": return new Lamb(beast);
            case "blind": return new Blind(beast);
            default: return new Marked(beast);
        }
    }

    int kind(int beast) {
        if (!isBeast(beast)) return BAD;
        return 1 + List.of("ewe", "ram", "lamb", "blind", "marked").indexOf(now.told.beasts().get(beast).sort());
    }

    int as(int beast, int kind) {
        if (!isBeast(beast) || !in(kind, 0, 5)) return BAD;
        List<Class<? extends Asked>> kinds = List.of(Asked.class, Ewe.class, Ram.class, Lamb.class, Blind.class, Marked.class);
        return kinds.get(kind).isInstance(asked(beast)) ? fine(beast) : finding(3);
    }

    int ask(int beast, int what) {
        if (!isBeast(beast) || !in(what, 0, 1)) return BAD;
        trace = new ArrayList<>();
        return what == 0 ? asked(beast).size() : asked(beast).mark();
    }

    int trace(int i) {
        return in(i, 0, Math.min(16, trace.size()) - 1) ? trace.get(i) : NONE;
    }

    int count(int what) {
        if (!in(what, 0, 7)) return BAD;
        int there = 0;
        for (int[] row : rows) if (row != null) there++;
        if (what == 0) return there;
        if (what == 7) return tape.length();
        if (now == null) return 0;
        int[] counts = {0, now.right.length, now.told.beasts().size(), now.told.pens(), past.size(), now.bits(), inPens()};
        return counts[what];
    }

    int status() {
        return status;
    }
}
