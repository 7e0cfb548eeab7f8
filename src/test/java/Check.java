/** What the tests share: answers that are due, texts that are fed, rows that are filled. */
final class Check {
    static final int NULL = -1000011, PLACE = -1000012, KIND = -1000013, SIZE = -1000014, STORE = -1000015;
    static final int FAULTS = -1000100;

    /** A fold of all sorts: h3 leads to the post h2 and to h1, h2 to h0; h3 is tied to h1, h1 to h0. */
    static final String ALL_SORTS = "fold 4;hurdle swing 0 1 0;hurdle stiff 2 3 1;hurdle post 10 2 0;"
            + "hurdle swing 12 11 2;beast ewe 30;beast ram 60;beast lamb 9;beast blind 25;beast marked 40;";

    private static int asked = 0;
    private static int wrong = 0;
    private static String sentence = "";

    private Check() {
    }

    /** The sentence of the document that the answers behind this are due by. */
    static void by(String told) {
        sentence = told + ": ";
    }

    static void due(String call, long want, long got) {
        asked++;
        if (got == want) return;
        wrong++;
        if (wrong <= 50) System.out.println(sentence + call + " answered " + got + ", due is " + want);
    }

    static void end() {
        System.out.println(asked + " answers, " + wrong + " of them not as due");
        if (wrong != 0 || asked == 0) System.exit(1);
    }

    static void feed(FoldGates x, String text) {
        for (int at = 0; at < text.length(); at += 8) {
            int n = Math.min(8, text.length() - at);
            long w = 0;
            for (int k = 0; k < n; k++) w = w << 8 | text.charAt(at + k) & 255;
            x.feed(w, n);
        }
    }

    static int read(FoldGates x, String text) {
        feed(x, text);
        return x.fold();
    }

    static String blanks(int n) {
        return " ".repeat(n);
    }

    static FoldGates told(String text) {
        FoldGates x = new FoldGates();
        if (read(x, text) < 0) due("fold of " + text, 1, 0);
        return x;
    }

    static void fill(FoldGates x, int row, int... items) {
        x.row(row, 2, items.length);
        for (int i = 0; i < items.length; i++) x.set(row, i, items[i]);
    }

    /** Answers of several calls of one sort, what = 0, 1 and on. */
    static void dueHurdle(FoldGates x, int hurdle, int... want) {
        for (int what = 0; what < want.length; what++) {
            due("hurdle(" + hurdle + ", " + what + ")", want[what], x.hurdle(hurdle, what));
        }
    }

    static void dueTrace(FoldGates x, int... want) {
        for (int i = 0; i < want.length; i++) due("trace(" + i + ")", want[i], x.trace(i));
        due("trace behind the last", FoldGates.NONE, x.trace(want.length));
    }
}
