/** Promises 26 to 29, 31 and part 4: each sentence that names an edge, on both sides of it. */
public final class EdgesAskedTest {
    private static final int BAD = FoldGates.BAD, STATE = FoldGates.STATE, FULL = FoldGates.FULL, NONE = FoldGates.NONE;
    private static final int LEAST = Integer.MIN_VALUE, MOST = Integer.MAX_VALUE;

    public static void main(String[] args) {
        kindsOfBeasts();
        asEachKind();
        asRefused();
        asksRefused();
        asksOfTheLastBeast();
        asksOfTheFirstBeast();
        asksAreNotKept();
        tracePlaces();
        traceIsEmptyAhead();
        statusOfEachFinding();
        statusOfNone();
        statusOfOtherCalls();
        statusOfBad();
        statusOfState();
        statusOfFull();
        Check.end();
    }

    private static void kindsOfBeasts() {
        Check.by("kind: as told (1 to 5). BAD");
        FoldGates x = Check.told(Check.ALL_SORTS);
        Check.due("kind(0)", 1, x.kind(0));
        Check.due("kind(4)", 5, x.kind(4));
        for (int beast : new int[] {-1, 5, 8, LEAST, MOST}) Check.due("kind(" + beast + ")", BAD, x.kind(beast));
        Check.due("without a FOLD", BAD, new FoldGates().kind(0));
        Check.due("without BEASTS", BAD, Check.told("fold 1;hurdle post 0 0 0;").kind(0));
    }

    private static void asEachKind() {
        Check.by("1 EWE, a BEAST; 2 RAM, an EWE; 3 LAMB, an EWE; 4 BLIND, a BEAST; 5 MARKED, a BLIND one");
        FoldGates x = Check.told(Check.ALL_SORTS);
        String[] is = {"110000", "111000", "110100", "100010", "100011"};
        for (int beast = 0; beast < 5; beast++) {
            for (int kind = 0; kind <= 5; kind++) {
                boolean fits = is[beast].charAt(kind) == '1';
                Check.due("as(" + beast + ", " + kind + ")", fits ? beast : Check.KIND, x.as(beast, kind));
                Check.due("status()", fits ? 0 : 3, x.status());
            }
        }
    }

    private static void asRefused() {
        Check.by("as: a KIND (0 .. 5). BAD; KIND");
        FoldGates x = Check.told(Check.ALL_SORTS);
        x.as(0, 5);
        for (int kind : new int[] {-1, 6, LEAST, MOST}) Check.due("as(0, " + kind + ")", BAD, x.as(0, kind));
        for (int beast : new int[] {-1, 5, LEAST, MOST}) {
            Check.due("as(" + beast + ", 0)", BAD, x.as(beast, 0));
            Check.due("as(" + beast + ", 5): BAD is ahead of KIND", BAD, x.as(beast, 5));
        }
        Check.due("status() stays", 3, x.status());
        Check.due("as(0, 0) without a FOLD", BAD, new FoldGates().as(0, 0));
    }

    private static void asksRefused() {
        Check.by("ask: an ASK (0, 1) of a BEAST. BAD");
        FoldGates x = Check.told(Check.ALL_SORTS);
        x.ask(4, 1);
        for (int what : new int[] {-1, 2, LEAST, MOST}) Check.due("ask(0, " + what + ")", BAD, x.ask(0, what));
        for (int beast : new int[] {-1, 5, LEAST, MOST}) {
            Check.due("ask(" + beast + ", 0)", BAD, x.ask(beast, 0));
            Check.due("ask(" + beast + ", 1)", BAD, x.ask(beast, 1));
        }
        Check.dueTrace(x, 23, 20, 14, 13, 10);
        FoldGates y = new FoldGates();
        Check.due("without a FOLD", BAD, y.ask(0, 0));
        Check.dueTrace(y);
    }

    /** Beast 7 of each kind, HEAVY 99, LEFT into pen 4 and RIGHT into pen 5. */
    private static void asksOfTheLastBeast() {
        Check.by("0 SIZE, 1 MARK, of BEAST 7");
        dueAsk("ewe 99", 0, 99 + 7 + 4, 11, 10, 21, 20);
        dueAsk("ewe 99", 1, 7 + 4, 21, 20);
        dueAsk("ram 99", 0, -(99 + 2 * (7 + 5)), 12, 11, 10, 24, 21, 20);
        dueAsk("ram 99", 1, 2 * (7 + 5), 24, 21, 20);
        dueAsk("lamb 99", 0, 99 + 7 + 4 - 1000, 11, 10, 22, 21, 20);
        dueAsk("lamb 99", 1, 7 + 4 - 1000, 22, 21, 20);
        dueAsk("blind 99", 0, -1, 13, 10);
        dueAsk("blind 99", 1, 7 + 1, 23, 20, 13, 10);
        dueAsk("marked 99", 0, -2, 14, 13, 10);
        dueAsk("marked 99", 1, 7 + 2, 23, 20, 14, 13, 10);
        dueAsk("blind 1", 0, -99, 13, 10);
        dueAsk("marked 1", 1, 7 + 198, 23, 20, 14, 13, 10);
    }

    private static void dueAsk(String beast, int what, int want, int... bodies) {
        FoldGates x = Check.told("fold 6;hurdle swing 4 5 0;" + "beast blind 50;".repeat(7) + "beast " + beast + ";");
        Check.due("ask(7, " + what + ") of " + beast, want, x.ask(7, what));
        Check.dueTrace(x, bodies);
    }

    private static void asksOfTheFirstBeast() {
        Check.by("0 SIZE, 1 MARK, of BEAST 0 that would come into PEN 0");
        String[] beasts = {"ewe", "ram", "lamb", "blind", "marked"};
        int[] sizes = {1, -1, -999, -99, -198};
        int[] marks = {0, 0, -1000, 99, 198};
        for (int k = 0; k < 5; k++) {
            FoldGates x = Check.told("fold 1;hurdle swing 0 0 0;beast " + beasts[k] + " 1;");
            Check.due("SIZE of " + beasts[k], sizes[k], x.ask(0, 0));
            Check.due("MARK of " + beasts[k], marks[k], x.ask(0, 1));
        }
    }

    private static void asksAreNotKept() {
        Check.by("the PEN into which it would come now");
        FoldGates x = Check.told("fold 6;hurdle stiff 0 5 0;beast ewe 1;");
        for (int pushes = 0; pushes <= 6; pushes++) {
            int pen = pushes / 3 % 2 * 5;
            Check.due("MARK behind " + pushes, pen, x.ask(0, 1));
            Check.due("SIZE behind " + pushes, 1 + pen, x.ask(0, 0));
            Check.due("PUSHED", pushes, x.hurdle(0, 5));
            Check.due("in PENS", pushes, x.count(6));
            Check.due("run(0)", pen, x.run(0));
        }
    }

    private static void tracePlaces() {
        Check.by("trace: number i of THE TRACE (the first 16); NONE");
        FoldGates x = Check.told(Check.ALL_SORTS);
        x.ask(1, 0);
        Check.due("the first", 12, x.trace(0));
        Check.due("the last", 20, x.trace(5));
        for (int i : new int[] {6, 15, 16, 17, -1, LEAST, MOST}) Check.due("trace(" + i + ")", NONE, x.trace(i));
        FoldGates y = new FoldGates();
        for (int i : new int[] {0, 1, 15, 16, -1}) Check.due("of no ask, trace(" + i + ")", NONE, y.trace(i));
    }

    private static void traceIsEmptyAhead() {
        Check.by("ask: THE TRACE is empty ahead of it");
        FoldGates x = Check.told(Check.ALL_SORTS);
        for (int k = 0; k < 20; k++) x.ask(1, 0);
        Check.dueTrace(x, 12, 11, 10, 24, 21, 20);
        x.ask(3, 0);
        Check.dueTrace(x, 13, 10);
        Check.due("trace(5)", NONE, x.trace(5));
        x.run(0);
        x.restore(0);
        x.fold();
        Check.dueTrace(x, 13, 10);
    }

    private static void statusOfEachFinding() {
        Check.by("status: the number of its FINDING");
        FoldGates x = Check.told(Check.ALL_SORTS);
        x.row(0, 0, 2);
        x.row(1, 1, 2);
        Check.due("NULL", Check.NULL, x.set(2, 0, 0));
        Check.due("status()", 1, x.status());
        Check.due("status() again", 1, x.status());
        Check.due("PLACE", Check.PLACE, x.set(0, 2, 0));
        Check.due("status()", 2, x.status());
        Check.due("KIND", Check.KIND, x.as(0, 2));
        Check.due("status()", 3, x.status());
        Check.due("SIZE", Check.SIZE, x.row(0, 0, -1));
        Check.due("status()", 4, x.status());
        Check.due("STORE", Check.STORE, x.copy(0, 0, 1, 0, 1));
        Check.due("status()", 5, x.status());
    }

    private static void statusOfNone() {
        Check.by("status: 0: it had none, or there was none");
        FoldGates x = new FoldGates();
        Check.due("a new object", 0, x.status());
        Check.read(x, Check.ALL_SORTS);
        String[] calls = {"row", "set", "copy", "drop", "runs", "stood", "stood NONE", "sticks", "theft", "mixed", "as"};
        for (int k = 0; k < calls.length; k++) {
            x.row(0, 0, 4);
            x.row(1, 0, 4);
            x.set(0, 3, 3);
            x.set(2, 0, 0);
            Check.due("a FINDING ahead of " + calls[k], 1, x.status());
            Check.due(calls[k] + " is not refused", 1, statusCall(x, k) >= NONE ? 1 : 0);
            Check.due("status() behind " + calls[k], 0, x.status());
        }
    }

    private static int statusCall(FoldGates x, int k) {
        switch (k) {
            case 0: return x.row(3, 0, 0);
            case 1: return x.set(0, 0, 0);
            case 2: return x.copy(0, 0, 1, 0, 0);
            case 3: return x.drop(1);
            case 4: return x.runs(0, 0, 1);
            case 5: return x.stood(0, 0, 0, 0);
            case 6: return x.stood(0, 2, 1, 1);
            case 7: return x.sticks(0, 0, 0);
            case 8: return x.theft(0, 0, 0, 0);
            case 9: return x.mixed(0, 0, 0);
            default: return x.as(4, 5);
        }
    }

    private static void statusOfOtherCalls() {
        Check.by("status: of the latest call with a ROW, or as()");
        FoldGates x = Check.told(Check.ALL_SORTS);
        x.row(0, 0, -1);
        x.feed(32, 1);
        x.fold();
        x.fault();
        x.run(0);
        x.dawn(1);
        x.undo();
        x.hurdle(0, 0);
        x.heavy(0);
        x.pen(0, 0);
        x.ahead(0, 0, 0);
        x.reached(0, -1);
        x.comes();
        x.round(0, 0);
        x.image(0);
        x.restore(0);
        x.kind(0);
        x.ask(0, 0);
        x.trace(0);
        x.count(0);
        Check.due("status()", 4, x.status());
        Check.read(x, Check.ALL_SORTS);
        Check.due("status() behind fold()", 4, x.status());
    }

    private static void statusOfBad() {
        Check.by("status: that was not BAD");
        FoldGates x = Check.told(Check.ALL_SORTS);
        Check.fill(x, 0, 9, 9);
        x.row(1, 0, -1);
        Check.due("row", BAD, x.row(8, 0, 0));
        Check.due("set", BAD, x.set(8, 0, 0));
        Check.due("copy", BAD, x.copy(0, 0, 8, 0, 0));
        Check.due("drop", BAD, x.drop(8));
        Check.due("runs", BAD, x.runs(0, 0, 0));
        Check.due("stood", BAD, x.stood(0, 0, 13, 0));
        Check.due("sticks", BAD, x.sticks(0, 0, 13));
        Check.due("theft", BAD, x.theft(0, 0, 0, 25));
        Check.due("mixed", BAD, x.mixed(0, 0, 25));
        Check.due("as", BAD, x.as(0, 6));
        Check.due("ITEMS of runs", BAD, x.runs(0, 0, 1));
        Check.due("ITEMS of stood", BAD, x.stood(0, 0, 1, 0));
        Check.due("ITEMS of sticks", BAD, x.sticks(0, 0, 1));
        Check.due("ITEMS of theft", BAD, x.theft(0, 0, 0, 1));
        Check.due("ITEMS of mixed", BAD, x.mixed(0, 0, 1));
        Check.due("status()", 4, x.status());
    }

    private static void statusOfState() {
        Check.by("status: that was not STATE");
        FoldGates x = new FoldGates();
        x.row(0, 0, -1);
        x.runs(0, 0, 1);
        x.stood(0, 0, 0, 0);
        x.sticks(0, 0, 0);
        x.theft(0, 0, 0, 0);
        Check.due("mixed", STATE, x.mixed(0, 0, 0));
        Check.due("status()", 4, x.status());
    }

    private static void statusOfFull() {
        Check.by("status: that was not FULL");
        FoldGates x = Check.told("fold 1;hurdle post 0 0 0;beast ewe 1;");
        x.row(0, 0, 24);
        for (int k = 0; k < 416; k++) x.runs(0, 0, 24);
        x.row(0, 0, -1);
        Check.due("runs", FULL, x.runs(0, 0, 16));
        Check.due("status()", 4, x.status());
        Check.due("runs", 0, x.runs(0, 0, 15));
        Check.due("status()", 0, x.status());
        x.set(1, 0, 0);
        Check.due("run", FULL, x.run(0));
        Check.due("status()", 1, x.status());
    }
}
