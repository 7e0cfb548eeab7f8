import java.util.function.ToIntFunction;

/** "What is refused, or found, changes nothing but status()": each refusal, on an object with a twin that is not asked. */
public final class RefusedTest {
    private static final int BAD = FoldGates.BAD, STATE = FoldGates.STATE, FULL = FoldGates.FULL, NONE = FoldGates.NONE;
    private static final int NULL = Check.NULL, PLACE = Check.PLACE, KIND = Check.KIND, SIZE = Check.SIZE, STORE = Check.STORE;

    /** How the object and its twin are made. */
    private interface Maker {
        FoldGates make();
    }

    private static Maker maker;
    private static String untouched;

    public static void main(String[] args) {
        Check.by("What is refused, or found, changes nothing but status()");
        begin(RefusedTest::midway);
        rowsRefused();
        actsRefused();
        foretoldRefused();
        askedRefused();
        answersThatChangeNothing();
        begin(RefusedTest::withoutAFold);
        statesRefused();
        begin(RefusedTest::fullTape);
        refused("feed beyond the tape", FULL, x -> x.feed(0, 1));
        refused("feed of 8 beyond the tape", FULL, x -> x.feed(-1, 8));
        begin(RefusedTest::fullPens);
        refused("run beyond 9999", FULL, x -> x.run(0));
        refused("runs beyond 9999", FULL, x -> x.runs(0, 0, 1));
        refused("runs far beyond 9999", FULL, x -> x.runs(0, 0, 24));
        Check.end();
    }

    private static void begin(Maker how) {
        maker = how;
        untouched = probe(how.make());
    }

    private static void refused(String call, int want, ToIntFunction<FoldGates> asked) {
        FoldGates x = maker.make();
        int before = x.status();
        Check.due(call, want, asked.applyAsInt(x));
        boolean found = want <= NULL && want >= STORE;
        Check.due(call + ", status()", found ? -1000010 - want : before, x.status());
        Check.due(call + " changes nothing", 1, probe(x).equals(untouched) ? 1 : 0);
    }

    /** All that can be seen from outside but status(), in so few calls that an object has no more than 512. */
    private static String probe(FoldGates x) {
        StringBuilder s = new StringBuilder();
        for (int i = 0; i < 7; i++) s.append(x.trace(i)).append(' ');
        s.append(x.fault()).append(' ');
        appendFold(s, x);
        s.append("rows ");
        for (int i = 0; i < 4; i++) s.append(x.mixed(0, i, 1)).append(x.mixed(1, i, 1)).append(' ');
        s.append(x.theft(0, 0, 0, 3)).append(x.sticks(0, 0, 1)).append(x.copy(0, 0, 1, 0, 0)).append(' ');
        for (int k = 0; k < 4; k++) s.append("undone ").append(x.undo()).append(' ').append(x.count(5)).append(x.count(6)).append(' ');
        for (int k = 0; k < 2; k++) {
            int restored = x.restore(k);
            s.append("image ").append(restored).append(' ');
            if (restored == 1) appendFold(s, x);
        }
        s.append("text ").append(x.fold()).append(' ').append(x.fault()).append(' ');
        for (int row = 0; row < 8; row++) s.append(x.drop(row)).append(' ');
        return s.toString();
    }

    private static void appendFold(StringBuilder s, FoldGates x) {
        for (int what = 0; what < 8; what++) s.append(x.count(what)).append(' ');
        for (int h = 0; h < x.count(1); h++) s.append(x.hurdle(h, 3)).append(x.hurdle(h, 4)).append(x.hurdle(h, 5)).append(' ');
        for (int p = 0; p < x.count(3); p++) s.append(x.pen(p, 0)).append(' ').append(x.pen(p, 1)).append(' ');
        for (int b = 0; b < x.count(2); b++) s.append(x.heavy(b)).append(' ').append(x.kind(b)).append(' ');
    }

    private static FoldGates midway() {
        FoldGates x = new FoldGates();
        Check.read(x, "fold 1;hurdle post 0 0 1;");
        Check.read(x, Check.ALL_SORTS);
        x.run(0);
        x.image(1);
        x.run(1);
        x.run(4);
        Check.fill(x, 0, 1, 0, 4, 9);
        x.row(1, 0, 4);
        x.set(1, 2, 3);
        x.row(6, 1, 40);
        x.ask(2, 0);
        Check.feed(x, "fold 1;hurdl");
        x.drop(5);
        return x;
    }

    private static FoldGates withoutAFold() {
        FoldGates x = new FoldGates();
        x.row(0, 0, 4);
        x.row(1, 1, 4);
        Check.feed(x, "fold 1;hurdl");
        x.drop(5);
        return x;
    }

    private static FoldGates fullTape() {
        FoldGates x = midway();
        Check.feed(x, "e swing 0 0 0;" + Check.blanks(400 - 26));
        return x;
    }

    private static FoldGates fullPens() {
        FoldGates x = Check.told("fold 1;hurdle stiff 0 0 0;beast ewe 1;");
        x.row(0, 0, 24);
        for (int k = 0; k < 416; k++) x.runs(0, 0, 24);
        x.runs(0, 0, 15);
        x.drop(5);
        return x;
    }

    private static void rowsRefused() {
        refused("row, no such ROW", BAD, x -> x.row(8, 0, 1));
        refused("row, no such LANE", BAD, x -> x.row(0, 3, 1));
        refused("row, n above 40", BAD, x -> x.row(0, 0, 41));
        refused("row, SIZE", SIZE, x -> x.row(0, 0, -1));
        refused("row, SIZE of a missing one", SIZE, x -> x.row(3, 0, -1));
        refused("set, no such ROW", BAD, x -> x.set(-1, 0, 1));
        refused("set, NULL", NULL, x -> x.set(3, 0, 1));
        refused("set, PLACE", PLACE, x -> x.set(0, 4, 1));
        refused("copy, no such ROW", BAD, x -> x.copy(0, 0, 8, 0, 1));
        refused("copy, NULL", NULL, x -> x.copy(0, 0, 3, 0, 1));
        refused("copy, STORE", STORE, x -> x.copy(0, 0, 1, 0, 1));
        refused("copy, PLACE", PLACE, x -> x.copy(0, 1, 0, 0, 4));
        refused("copy, PLACE of n", PLACE, x -> x.copy(0, 1, 0, 0, -1));
        refused("drop, no such ROW", BAD, x -> x.drop(8));
        refused("drop, NULL", NULL, x -> x.drop(3));
    }

    private static void actsRefused() {
        refused("feed of none", BAD, x -> x.feed(0, 0));
        refused("feed of 9", BAD, x -> x.feed(0, 9));
        refused("run", BAD, x -> x.run(5));
        refused("runs, no such ROW", BAD, x -> x.runs(8, 0, 1));
        refused("runs of none", BAD, x -> x.runs(0, 0, 0));
        refused("runs, NULL", NULL, x -> x.runs(3, 0, 1));
        refused("runs, PLACE", PLACE, x -> x.runs(0, 2, 3));
        refused("runs, the last ITEM is no BEAST", BAD, x -> x.runs(0, 0, 4));
        refused("dawn", BAD, x -> x.dawn(16));
        refused("dawn below 0", BAD, x -> x.dawn(-1));
        refused("hurdle", BAD, x -> x.hurdle(4, 0));
        refused("heavy", BAD, x -> x.heavy(5));
        refused("pen", BAD, x -> x.pen(4, 0));
        refused("image", BAD, x -> x.image(2));
        refused("restore", BAD, x -> x.restore(2));
        refused("restore of none", STATE, x -> x.restore(0));
        refused("count", BAD, x -> x.count(8));
    }

    private static void foretoldRefused() {
        refused("stood", BAD, x -> x.stood(0, 0, 1, 2));
        refused("stood, NULL", NULL, x -> x.stood(3, 0, 1, 0));
        refused("stood, PLACE", PLACE, x -> x.stood(0, 3, 1, 0));
        refused("stood, an ITEM", BAD, x -> x.stood(0, 0, 2, 0));
        refused("ahead", BAD, x -> x.ahead(0, 0, 4));
        refused("reached", BAD, x -> x.reached(16, -1));
        refused("reached, k", BAD, x -> x.reached(0, -2));
        refused("round", BAD, x -> x.round(0, 2));
        refused("sticks", BAD, x -> x.sticks(0, 0, 13));
        refused("sticks, NULL", NULL, x -> x.sticks(3, 0, 1));
        refused("sticks, PLACE", PLACE, x -> x.sticks(0, 3, 1));
        refused("sticks, an ITEM", BAD, x -> x.sticks(0, 0, 2));
        refused("theft", BAD, x -> x.theft(5, 0, 0, 1));
        refused("theft, NULL", NULL, x -> x.theft(0, 3, 0, 1));
        refused("theft, PLACE", PLACE, x -> x.theft(0, 0, 4, 1));
        refused("theft, an ITEM", BAD, x -> x.theft(0, 0, 0, 4));
        refused("mixed", BAD, x -> x.mixed(0, 0, 25));
        refused("mixed, NULL", NULL, x -> x.mixed(3, 0, 1));
        refused("mixed, PLACE", PLACE, x -> x.mixed(0, 4, 1));
        refused("mixed, an ITEM", BAD, x -> x.mixed(0, 0, 4));
    }

    private static void askedRefused() {
        refused("kind", BAD, x -> x.kind(5));
        refused("as", BAD, x -> x.as(0, 6));
        refused("as, KIND", KIND, x -> x.as(0, 2));
        refused("ask", BAD, x -> x.ask(5, 0));
        refused("ask of 2", BAD, x -> x.ask(0, 2));
        refused("trace", NONE, x -> x.trace(16));
    }

    /** FORETOLD (nothing changes): nor does what is not refused. */
    private static void answersThatChangeNothing() {
        refused("ahead of NONE", NONE, x -> x.ahead(2, 3, 3));
        refused("reached of NONE", NONE, x -> x.reached(15, -1));
        refused("comes", 8, x -> x.comes());
        refused("round", 12, x -> x.round(0, 1));
        refused("kind", 5, x -> x.kind(4));
        refused("heavy", 40, x -> x.heavy(4));
    }

    private static void statesRefused() {
        refused("run", BAD, x -> x.run(0));
        refused("runs", STATE, x -> x.runs(0, 0, 1));
        refused("dawn", STATE, x -> x.dawn(0));
        refused("undo", STATE, x -> x.undo());
        refused("stood", STATE, x -> x.stood(0, 0, 0, 0));
        refused("ahead", BAD, x -> x.ahead(0, 0, 0));
        refused("reached", STATE, x -> x.reached(0, -1));
        refused("comes", STATE, x -> x.comes());
        refused("round", BAD, x -> x.round(0, 0));
        refused("sticks", STATE, x -> x.sticks(0, 0, 0));
        refused("theft", STATE, x -> x.theft(0, 0, 0, 0));
        refused("mixed", STATE, x -> x.mixed(0, 0, 0));
        refused("image", STATE, x -> x.image(0));
        refused("restore", STATE, x -> x.restore(1));
        refused("ask", BAD, x -> x.ask(0, 0));
        refused("as", BAD, x -> x.as(0, 0));
    }
}
