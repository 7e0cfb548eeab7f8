import java.util.Random;

/** Chance runs of calls, the same each time, against the plain model of the document. */
public final class ModelTest {
    private static final int RUNS = 1500, CALLS = 440;

    private final Random chance;
    private final String name;
    private final FoldGates x = new FoldGates();
    private final PlainFold y = new PlainFold();

    private ModelTest(int seed) {
        chance = new Random(seed);
        name = "run " + seed + ", ";
    }

    public static void main(String[] args) {
        for (int seed = 0; seed < RUNS; seed++) new ModelTest(seed).go();
        Check.end();
    }

    private void go() {
        int calls = 0;
        while (calls < CALLS) {
            if (chance.nextInt(120) == 0 || calls < 40 && x.count(1) == 0) calls += text();
            else if (chance.nextInt(40) == 0) calls += row();
            else calls += call();
        }
        for (int what = 0; what < 8; what++) due("count", x.count(what), y.count(what), what);
    }

    private void due(String call, int got, int want, int... with) {
        StringBuilder s = new StringBuilder(name).append(call);
        for (int v : with) s.append(' ').append(v);
        Check.due(s.toString(), want, got);
    }

    private int pick(int... of) {
        return of[chance.nextInt(of.length)];
    }

    /** Mostly a number from 0 to most, now and then one that is not. */
    private int number(int most) {
        switch (chance.nextInt(40)) {
            case 0: return -1;
            case 1: return most + 1;
            case 2: return pick(Integer.MIN_VALUE, Integer.MAX_VALUE, most + 2, -2);
            default: return chance.nextInt(most + 1);
        }
    }

    private int beast() {
        return number(Math.max(0, y.count(2) - 1));
    }

    private int pen() {
        return number(Math.max(0, y.count(3) - 1));
    }

    private int stands() {
        return number((1 << y.count(1)) - 1);
    }

    private int text() {
        String text = whole();
        if (chance.nextInt(3) == 0) text = marred(text);
        if (text.length() > 400) text = text.substring(0, 400);
        int calls = 0;
        for (int at = 0; at < text.length();) {
            int n = Math.min(8, text.length() - at);
            long w = chance.nextLong();
            for (int k = 0; k < n; k++) w = w << 8 | text.charAt(at + k) & 255;
            due("feed", x.feed(w, n), y.feed(w, n), n);
            at += n;
            calls++;
        }
        due("fold of " + text, x.fold(), y.fold());
        due("fault", x.fault(), y.fault());
        return calls + 2;
    }

    private String whole() {
        int pens = 1 + chance.nextInt(6);
        StringBuilder s = new StringBuilder("fold ").append(pens).append(";");
        int hurdles = 1 + chance.nextInt(5);
        for (int h = 0; h < hurdles; h++) {
            s.append("hurdle ").append(new String[] {"swing", "stiff", "stiff", "swing", "post"}[chance.nextInt(5)]);
            s.append(' ').append(way(pens, h)).append(' ').append(way(pens, h));
            s.append(' ').append(chance.nextInt(h + 1)).append(";");
        }
        int beasts = chance.nextInt(9);
        for (int b = 0; b < beasts; b++) {
            s.append("beast ").append(new String[] {"ewe", "ram", "lamb", "blind", "marked"}[chance.nextInt(5)]);
            s.append(' ').append(1 + chance.nextInt(99)).append(";");
        }
        return s.toString();
    }

    private int way(int pens, int h) {
        return h > 0 && chance.nextInt(4) > 0 ? 10 + chance.nextInt(h) : chance.nextInt(pens);
    }

    private String marred(String text) {
        StringBuilder s = new StringBuilder(text);
        int at = chance.nextInt(s.length());
        switch (chance.nextInt(5)) {
            case 0: s.deleteCharAt(at); break;
            case 1: s.insert(at, " \n;a0!".charAt(chance.nextInt(6))); break;
            case 2: s.setCharAt(at, " \n;z19\0".charAt(chance.nextInt(7))); break;
            case 3: s.setLength(at); break;
            default:
                s.append(new String[] {"beast ewe 1;", "hurdle post 0 0 0;", "x", ";", "7"}[chance.nextInt(5)]);
        }
        return s.toString();
    }

    private int row() {
        int row = chance.nextInt(4);
        int n = 4 + chance.nextInt(22);
        int lane = chance.nextInt(3);
        due("row", x.row(row, lane, n), y.row(row, lane, n), row, lane, n);
        boolean wild = chance.nextInt(4) == 0;
        for (int i = 0; i < n; i++) {
            int most = i % 2 == 0 ? y.count(2) : Math.min(y.count(2), y.count(3));
            int v = wild ? beast() : chance.nextInt(Math.max(1, most));
            due("set", x.set(row, i, v), y.set(row, i, v), row, i, v);
        }
        return n + 1;
    }

    private int call() {
        int a = number(chance.nextInt(8) == 0 ? 7 : 3);
        int b = chance.nextInt(8) == 0 ? number(7) : number(3);
        int i = number(chance.nextInt(4) == 0 ? 40 : 8);
        int j = number(8);
        int one = number(1);
        switch (chance.nextInt(33)) {
            case 0: return callRows(a, i, b, j);
            case 1: return callRun();
            case 2: return callRun();
            case 3: {
                int n = number(chance.nextInt(4) == 0 ? 24 : 6);
                due("runs", x.runs(a, i, n), y.runs(a, i, n), a, i, n);
                break;
            }
            case 4: {
                if (chance.nextInt(3) > 0) return callRun();
                int s = stands();
                due("dawn", x.dawn(s), y.dawn(s), s);
                break;
            }
            case 5: case 6: due("undo", x.undo(), y.undo()); break;
            case 7: {
                int h = number(Math.max(0, y.count(1) - 1));
                int w = number(5);
                due("hurdle", x.hurdle(h, w), y.hurdle(h, w), h, w);
                break;
            }
            case 8: {
                int p = pen();
                due("pen", x.pen(p, one), y.pen(p, one), p, one);
                break;
            }
            case 9: case 10: case 11: {
                int n = number(chance.nextInt(4) == 0 ? 12 : 3);
                due("stood", x.stood(a, i, n, one), y.stood(a, i, n, one), a, i, n, one);
                break;
            }
            case 12: case 13: {
                int r = beast();
                int o = beast();
                int p = pen();
                due("ahead", x.ahead(r, o, p), y.ahead(r, o, p), r, o, p);
                break;
            }
            case 14: case 15: {
                if (chance.nextInt(6) > 0) return callRun();
                int s = stands();
                int k = number(4) - 1;
                due("reached", x.reached(s, k), y.reached(s, k), s, k);
                break;
            }
            case 16: if (chance.nextInt(6) == 0) due("comes", x.comes(), y.comes()); break;
            case 17: case 18: {
                int r = beast();
                due("round", x.round(r, one), y.round(r, one), r, one);
                break;
            }
            default: return callMore(a, i, one);
        }
        return 1;
    }

    private int callRun() {
        int r = beast();
        due("run", x.run(r), y.run(r), r);
        return 1;
    }

    private int callRows(int a, int i, int b, int j) {
        int n = number(6);
        switch (chance.nextInt(6)) {
            case 0: due("row", x.row(a, b, n), y.row(a, b, n), a, b, n); break;
            case 1: due("drop", x.drop(a), y.drop(a), a); break;
            default: due("copy", x.copy(a, i, b, j, n), y.copy(a, i, b, j, n), a, i, b, j, n);
        }
        return 1;
    }

    private int callMore(int a, int i, int one) {
        int r = beast();
        int n = number(chance.nextInt(4) == 0 ? 24 : 5);
        switch (chance.nextInt(13)) {
            case 0: case 1: case 2: due("sticks", x.sticks(a, i, n), y.sticks(a, i, n), a, i, n); break;
            case 3: case 4: due("theft", x.theft(r, a, i, n), y.theft(r, a, i, n), r, a, i, n); break;
            case 5: case 6: due("mixed", x.mixed(a, i, n), y.mixed(a, i, n), a, i, n); break;
            case 7: due("image", x.image(one), y.image(one), one); break;
            case 8: if (chance.nextInt(4) == 0) due("restore", x.restore(one), y.restore(one), one); break;
            case 9: due("kind", x.kind(r), y.kind(r), r); due("heavy", x.heavy(r), y.heavy(r), r); break;
            case 10: {
                int k = number(5);
                due("as", x.as(r, k), y.as(r, k), r, k);
                break;
            }
            case 11: {
                due("ask", x.ask(r, one), y.ask(r, one), r, one);
                for (int k = 0; k < 7; k++) due("trace", x.trace(k), y.trace(k), k);
                return 8;
            }
            default: {
                int w = number(7);
                due("count", x.count(w), y.count(w), w);
                due("status", x.status(), y.status());
            }
        }
        return 1;
    }
}
