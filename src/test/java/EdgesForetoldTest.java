/** Promises 16 to 23 and part 3: each sentence that names an edge, on both sides of it. */
public final class EdgesForetoldTest {
    private static final int BAD = FoldGates.BAD, STATE = FoldGates.STATE, NONE = FoldGates.NONE;
    private static final int NULL = Check.NULL, PLACE = Check.PLACE;
    private static final int LEAST = Integer.MIN_VALUE, MOST = Integer.MAX_VALUE;

    /** Ewes count by two: hurdle 4 turns each time, hurdle 3 each second time, and so on. */
    private static final String COUNTER = "fold 2;hurdle swing 0 1 0;hurdle swing 0 10 0;hurdle swing 0 11 0;"
            + "hurdle swing 0 12 0;hurdle swing 0 13 0;beast ewe 1;beast lamb 1;";
    private static final String STIFF_COUNTER = COUNTER.replace("swing", "stiff");

    public static void main(String[] args) {
        withoutAFold();
        rowsOfAll();
        howManyPairs();
        howManyBeasts();
        placesOfPairs();
        placesOfBeasts();
        itemsOfPairs();
        itemsOfBeasts();
        stoodWhat();
        stoodByNone();
        stoodByTwelve();
        stoodNone();
        stoodNonePushed();
        aheadRefused();
        aheadNoneAndOnce();
        aheadSixty();
        aheadOfItself();
        reachedRefused();
        reachedByNone();
        reachedBeasts();
        reachedLeastRows();
        comesOneAndAll();
        roundRefused();
        rounds();
        roundByThree();
        sticksEdges();
        sticksOfAPost();
        theftEdges();
        theftOfBeasts();
        mixedEdges();
        changesNothing();
        Check.end();
    }

    private static void withoutAFold() {
        Check.by("STATE: no FOLD");
        FoldGates x = new FoldGates();
        x.row(0, 0, 2);
        for (int row : new int[] {0, 1, -1, 8}) {
            for (int n : new int[] {0, 1, -1, 25}) {
                Check.due("stood", STATE, x.stood(row, 0, n, 0));
                Check.due("stood, what is 2", STATE, x.stood(row, 0, n, 2));
                Check.due("sticks", STATE, x.sticks(row, 3, n));
                Check.due("theft", STATE, x.theft(0, row, 0, n));
                Check.due("mixed", STATE, x.mixed(row, -1, n));
            }
        }
        Check.due("reached(0, -1)", STATE, x.reached(0, -1));
        Check.due("reached(-1, -2): STATE is ahead of BAD", STATE, x.reached(-1, -2));
        Check.due("comes()", STATE, x.comes());
        Check.due("ahead(0, 0, 0): no such BEAST", BAD, x.ahead(0, 0, 0));
        Check.due("round(0, 0): no such BEAST", BAD, x.round(0, 0));
        Check.due("status()", 0, x.status());
    }

    private static void rowsOfAll() {
        Check.by("BAD: all but ITEMS: ROW");
        FoldGates x = Check.told(Check.ALL_SORTS);
        x.row(0, 0, 2);
        x.row(7, 0, 2);
        for (int row : new int[] {0, 7}) dueAll(x, row, 0, 1, 0);
        for (int row : new int[] {-1, 8, LEAST, MOST}) dueAll(x, row, 0, 1, BAD);
        for (int row : new int[] {-1, 8}) dueAll(x, row, -1, 1, BAD);
        Check.by("NULL");
        for (int i : new int[] {0, -1, MOST}) dueAll(x, 1, i, 1, NULL);
        dueAll(x, 1, 0, 0, NULL);
    }

    /** The four that take a row are refused alike; 0: they are not. */
    private static void dueAll(FoldGates x, int row, int i, int n, int want) {
        String told = row + ", " + i + ", " + n;
        due("stood " + told, want, x.stood(row, i, n, 0));
        due("sticks " + told, want, x.sticks(row, i, n));
        due("theft " + told, want, x.theft(0, row, i, n));
        due("mixed " + told, want, x.mixed(row, i, n));
        if (want <= NULL) Check.due("status()", -1000010 - want, x.status());
    }

    private static void due(String call, int want, int got) {
        if (want < 0) Check.due(call, want, got);
        else Check.due(call + " is not refused", 1, got >= 0 ? 1 : 0);
    }

    private static void howManyPairs() {
        Check.by("n pairs (0 to 12)");
        FoldGates x = Check.told(Check.ALL_SORTS);
        x.row(0, 0, 40);
        for (int n : new int[] {0, 12}) {
            due("stood of " + n, 0, x.stood(0, 0, n, 0));
            due("sticks of " + n, 0, x.sticks(0, 0, n));
        }
        for (int n : new int[] {-1, 13, 20, LEAST, MOST, 1 << 30, 1 << 31}) {
            Check.due("stood of " + n, BAD, x.stood(0, 0, n, 0));
            Check.due("sticks of " + n, BAD, x.sticks(0, 0, n));
            Check.due("stood of " + n + ": BAD is ahead of NULL", BAD, x.stood(1, 0, n, 0));
            Check.due("sticks of " + n + ": BAD is ahead of PLACE", BAD, x.sticks(0, 41, n));
        }
    }

    private static void howManyBeasts() {
        Check.by("n BEASTS (0 to 24)");
        FoldGates x = Check.told(Check.ALL_SORTS);
        x.row(0, 0, 40);
        for (int n : new int[] {0, 24}) {
            due("theft of " + n, 0, x.theft(0, 0, 0, n));
            due("mixed of " + n, 0, x.mixed(0, 0, n));
        }
        for (int n : new int[] {-1, 25, 40, LEAST, MOST}) {
            Check.due("theft of " + n, BAD, x.theft(0, 0, 0, n));
            Check.due("mixed of " + n, BAD, x.mixed(0, 0, n));
            Check.due("theft of " + n + ": BAD is ahead of NULL", BAD, x.theft(0, 1, 0, n));
            Check.due("mixed of " + n + ": BAD is ahead of PLACE", BAD, x.mixed(0, 41, n));
        }
    }

    private static void placesOfPairs() {
        Check.by("PLACE, by pairs");
        FoldGates x = Check.told(Check.ALL_SORTS);
        x.row(0, 0, 40);
        x.row(1, 0, 3);
        int[][] rows = {{0, 16, 12, 0}, {0, 17, 12, PLACE}, {0, 38, 1, 0}, {0, 39, 1, PLACE}, {0, 40, 0, 0},
            {0, 41, 0, PLACE}, {0, -1, 0, PLACE}, {0, -1, 1, PLACE}, {0, MOST, 12, PLACE}, {0, LEAST, 12, PLACE},
            {1, 0, 1, 0}, {1, 1, 1, 0}, {1, 2, 1, PLACE}, {1, 0, 2, PLACE}, {1, 3, 0, 0}};
        for (int[] r : rows) {
            due("stood(" + r[0] + ", " + r[1] + ", " + r[2] + ", 0)", r[3], x.stood(r[0], r[1], r[2], 0));
            due("sticks(" + r[0] + ", " + r[1] + ", " + r[2] + ")", r[3], x.sticks(r[0], r[1], r[2]));
            Check.due("status()", r[3] == PLACE ? 2 : 0, x.status());
        }
    }

    private static void placesOfBeasts() {
        Check.by("PLACE, by BEASTS");
        FoldGates x = Check.told(Check.ALL_SORTS);
        x.row(0, 0, 40);
        x.row(1, 0, 0);
        int[][] rows = {{0, 16, 24, 0}, {0, 17, 24, PLACE}, {0, 39, 1, 0}, {0, 40, 1, PLACE}, {0, 40, 0, 0},
            {0, 41, 0, PLACE}, {0, -1, 0, PLACE}, {0, -1, 2, PLACE}, {0, MOST, 24, PLACE}, {0, LEAST, 24, PLACE},
            {1, 0, 0, 0}, {1, 0, 1, PLACE}, {1, 1, 0, PLACE}};
        for (int[] r : rows) {
            due("theft(0, " + r[0] + ", " + r[1] + ", " + r[2] + ")", r[3], x.theft(0, r[0], r[1], r[2]));
            due("mixed(" + r[0] + ", " + r[1] + ", " + r[2] + ")", r[3], x.mixed(r[0], r[1], r[2]));
            Check.due("status()", r[3] == PLACE ? 2 : 0, x.status());
        }
    }

    private static void itemsOfPairs() {
        Check.by("then BAD: an ITEM that is no BEAST, no PEN (pairs)");
        FoldGates x = Check.told(Check.ALL_SORTS);
        Check.fill(x, 0, 4, 3, 0, 0);
        due("stood: the last BEAST, the last PEN", 0, x.stood(0, 0, 2, 0));
        due("sticks: the last BEAST, the last PEN", 0, x.sticks(0, 0, 2));
        int[][] wrong = {{0, 5}, {0, -1}, {0, LEAST}, {0, MOST}, {1, 4}, {1, -1}, {1, LEAST}, {1, MOST}};
        for (int at = 0; at <= 2; at += 2) {
            for (int[] w : wrong) {
                Check.fill(x, 0, 4, 3, 0, 0, 9, 9);
                x.set(0, at + w[0], w[1]);
                x.set(0, 6, 0);
                String told = "item " + (at + w[0]) + " is " + w[1];
                Check.due("stood, " + told, BAD, x.stood(0, 0, 2, 0));
                Check.due("stood, the least, " + told, BAD, x.stood(0, 0, 2, 1));
                Check.due("sticks, " + told, BAD, x.sticks(0, 0, 2));
                Check.due("PLACE is ahead of it", PLACE, x.stood(0, 0, 4, 0));
                Check.due("of none", 16, x.stood(0, at, 0, 0));
            }
        }
        Check.fill(x, 0, 4, 3, 9, 9);
        due("stood: what is behind them is not asked", 0, x.stood(0, 0, 1, 0));
        Check.fill(x, 0, 0, 1, 5, 0);
        Check.due("a pair that is not told true, and then no BEAST", BAD, x.sticks(0, 0, 2));
    }

    private static void itemsOfBeasts() {
        Check.by("then BAD: an ITEM that is no BEAST");
        FoldGates x = Check.told(Check.ALL_SORTS);
        for (int item : new int[] {5, -1, LEAST, MOST}) {
            Check.fill(x, 0, 0, 4, item, 1);
            due("theft ahead of it", 0, x.theft(0, 0, 0, 2));
            due("mixed behind it", 0, x.mixed(0, 3, 1));
            Check.due("theft of " + item, BAD, x.theft(0, 0, 0, 3));
            Check.due("mixed of " + item, BAD, x.mixed(0, 0, 3));
            Check.due("mixed of it first", BAD, x.mixed(0, 2, 2));
            Check.due("theft beyond", PLACE, x.theft(0, 0, 1, 4));
            Check.due("status()", 2, x.status());
            x.mixed(0, 2, 1);
            Check.due("status() behind BAD ITEMS stays", 2, x.status());
        }
    }

    private static void stoodWhat() {
        Check.by("stood: how many (what = 0), the least (1)");
        FoldGates x = Check.told(Check.ALL_SORTS);
        x.row(0, 0, 2);
        due("what is 0", 0, x.stood(0, 0, 1, 0));
        due("what is 1", 0, x.stood(0, 0, 1, 1));
        for (int what : new int[] {-1, 2, LEAST, MOST}) {
            Check.due("what is " + what, BAD, x.stood(0, 0, 1, what));
            Check.due("what is " + what + ": BAD is ahead of NULL", BAD, x.stood(1, 0, 1, what));
            Check.due("what is " + what + ": BAD is ahead of PLACE", BAD, x.stood(0, 1, 1, what));
        }
    }

    private static void stoodByNone() {
        Check.by("STOOD by no pairs: all standings (bits of all HURDLES)");
        for (int hurdles = 1; hurdles <= 5; hurdles++) {
            FoldGates x = Check.told("fold 1;" + "hurdle post 0 0 0;".repeat(hurdles));
            x.row(0, 2, 0);
            Check.due("how many", 1 << hurdles, x.stood(0, 0, 0, 0));
            Check.due("the least", 0, x.stood(0, 0, 0, 1));
        }
    }

    /** From 5 the twelfth ewe is the first that finds all RIGHT. */
    private static void stoodByTwelve() {
        Check.by("STOOD by 12 pairs");
        FoldGates x = Check.told(COUNTER);
        x.row(0, 0, 24);
        int[] pens = twelveFrom(5);
        for (int k = 0; k < 12; k++) {
            Check.due("ewe " + k, k < 11 ? 0 : 1, pens[k]);
            x.set(0, 2 * k + 1, pens[k]);
        }
        Check.due("how many by 12", 1, x.stood(0, 0, 12, 0));
        Check.due("the least by 12", 5, x.stood(0, 0, 12, 1));
        Check.due("how many by 11", 21, x.stood(0, 0, 11, 0));
        x.set(0, 23, 0);
        Check.due("how many by 12, none into 1", 20, x.stood(0, 0, 12, 0));
    }

    private static int[] twelveFrom(int stands) {
        FoldGates x = Check.told(COUNTER);
        x.dawn(stands);
        int[] pens = new int[12];
        for (int k = 0; k < 12; k++) pens[k] = x.run(0);
        return pens;
    }

    private static void stoodNone() {
        Check.by("STOOD: NONE");
        FoldGates x = Check.told("fold 3;hurdle swing 0 1 0;beast lamb 1;");
        Check.fill(x, 0, 0, 2);
        Check.due("how many", 0, x.stood(0, 0, 1, 0));
        Check.due("the least", NONE, x.stood(0, 0, 1, 1));
        Check.due("status()", 0, x.status());
        x.set(0, 1, 1);
        Check.due("how many", 1, x.stood(0, 0, 1, 0));
        Check.due("the least", 1, x.stood(0, 0, 1, 1));
        x.set(0, 1, 0);
        Check.due("the least", 0, x.stood(0, 0, 1, 1));
    }

    private static void stoodNonePushed() {
        Check.by("STOOD: none PUSHED, whatever it is now");
        FoldGates x = Check.told("fold 2;hurdle stiff 0 1 0;beast ewe 1;");
        Check.fill(x, 0, 0, 0, 0, 0, 0, 0, 0, 1);
        for (int pushes = 0; pushes <= 3; pushes++) {
            Check.due("how many, behind " + pushes, 1, x.stood(0, 0, 4, 0));
            Check.due("the least, behind " + pushes, 0, x.stood(0, 0, 4, 1));
            x.run(0);
        }
    }

    private static void aheadRefused() {
        Check.by("ahead: a BEAST that RUNS, another one, a PEN. BAD");
        FoldGates x = Check.told(Check.ALL_SORTS);
        due("ahead(4, 4, 3)", 0, x.ahead(4, 4, 3));
        for (int v : new int[] {-1, 5, LEAST, MOST}) {
            Check.due("ahead(" + v + ", 0, 0)", BAD, x.ahead(v, 0, 0));
            Check.due("ahead(0, " + v + ", 0)", BAD, x.ahead(0, v, 0));
        }
        for (int pen : new int[] {-1, 4, 5, LEAST, MOST}) Check.due("ahead(0, 0, " + pen + ")", BAD, x.ahead(0, 0, pen));
    }

    private static void aheadNoneAndOnce() {
        Check.by("AHEAD: the fewest (0 to 60) times; NONE");
        FoldGates x = Check.told("fold 3;hurdle swing 0 1 0;beast ewe 1;beast lamb 1;beast blind 1;");
        Check.due("it comes there now", 0, x.ahead(0, 1, 0));
        Check.due("behind one", 1, x.ahead(0, 1, 1));
        Check.due("into a PEN to which none comes", NONE, x.ahead(0, 1, 2));
        Check.due("a blind one turns it never", NONE, x.ahead(2, 1, 1));
        Check.due("status() is not of this", 0, x.status());
    }

    /** The first lamb comes through the stiff ones behind more ewes than 60; each ewe that ran is one less. */
    private static void aheadSixty() {
        Check.by("AHEAD: 0 to 60");
        FoldGates counted = Check.told(STIFF_COUNTER);
        int times = 0;
        while (times < 200 && penOf(counted, 1) == 0) {
            counted.run(0);
            times++;
        }
        Check.due("the lamb comes into 1 only behind more than 61", 1, times > 61 && times < 200 ? 1 : 0);
        FoldGates x = Check.told(STIFF_COUNTER);
        for (int k = 62; k <= times; k++) {
            Check.due("behind " + (times - k + 62), NONE, x.ahead(0, 1, 1));
            x.run(0);
        }
        Check.due("behind 61", NONE, x.ahead(0, 1, 1));
        x.run(0);
        Check.due("behind 60", 60, x.ahead(0, 1, 1));
        x.run(0);
        Check.due("behind 59", 59, x.ahead(0, 1, 1));
    }

    private static int penOf(FoldGates x, int beast) {
        int pen = x.run(beast);
        x.undo();
        return pen;
    }

    private static void aheadOfItself() {
        Check.by("AHEAD: or itself");
        FoldGates x = Check.told("fold 2;hurdle stiff 0 1 0;beast ewe 1;beast ram 1;");
        Check.due("ahead(0, 0, 0)", 0, x.ahead(0, 0, 0));
        Check.due("ahead(0, 0, 1)", 3, x.ahead(0, 0, 1));
        Check.due("ahead(1, 1, 1)", 0, x.ahead(1, 1, 1));
        Check.due("ahead(1, 1, 0)", 1, x.ahead(1, 1, 0));
        x.run(0);
        Check.due("from now on", 2, x.ahead(0, 0, 1));
    }

    private static void reachedRefused() {
        Check.by("reached: BAD: no bits of HURDLES, k below -1");
        for (int hurdles = 1; hurdles <= 5; hurdles++) {
            FoldGates x = Check.told("fold 1;" + "hurdle swing 0 0 0;".repeat(hurdles) + "beast ewe 1;");
            int all = (1 << hurdles) - 1;
            Check.due("reached(0, -1)", 0, x.reached(0, -1));
            Check.due("reached(all, -1)", hurdles == 1 ? 1 : NONE, x.reached(all, -1));
            for (int stands : new int[] {all + 1, -1, LEAST, MOST, 32, 1 << 30}) {
                Check.due("reached(" + stands + ", -1)", BAD, x.reached(stands, -1));
                Check.due("reached(" + stands + ", 0)", BAD, x.reached(stands, 0));
            }
            for (int k : new int[] {-2, LEAST}) {
                Check.due("reached(0, " + k + ")", BAD, x.reached(0, k));
                Check.due("reached(all, " + k + ")", BAD, x.reached(all, k));
            }
            Check.due("reached(0, most)", NONE, x.reached(0, MOST));
        }
    }

    private static void reachedByNone() {
        Check.by("REACHED: what stands so now, by no BEAST");
        FoldGates x = Check.told(COUNTER);
        for (int stands = 0; stands < 32; stands++) {
            x.dawn(stands);
            Check.due("reached(" + stands + ", -1)", 0, x.reached(stands, -1));
            Check.due("reached(" + stands + ", 0)", NONE, x.reached(stands, 0));
        }
        FoldGates stiff = Check.told(STIFF_COUNTER);
        for (int pushes = 0; pushes < 4; pushes++) {
            Check.due("however often it was PUSHED", 0, stiff.reached(stiff.count(5), -1));
            Check.due("however often it was PUSHED", NONE, stiff.reached(stiff.count(5), 0));
            stiff.run(0);
        }
        FoldGates y = Check.told("fold 1;hurdle swing 0 0 0;");
        Check.due("without BEASTS", 0, y.reached(0, -1));
        Check.due("without BEASTS", NONE, y.reached(1, -1));
    }

    private static void reachedBeasts() {
        Check.by("REACHED: how many (k = -1), the k-th BEAST; NONE (not so many, too)");
        FoldGates x = Check.told(COUNTER);
        int[] ewes = {1, 2, 4, 8, 16, 31, 30};
        int[] stands = {16, 8, 4, 2, 1, 31, 15};
        for (int j = 0; j < ewes.length; j++) {
            Check.due("reached(" + stands[j] + ", -1)", ewes[j], x.reached(stands[j], -1));
            Check.due("the first", 0, x.reached(stands[j], 0));
            Check.due("the last", 0, x.reached(stands[j], ewes[j] - 1));
            Check.due("behind the last", NONE, x.reached(stands[j], ewes[j]));
            Check.due("the most", NONE, x.reached(stands[j], MOST));
        }
        FoldGates y = Check.told(STIFF_COUNTER);
        Check.due("all stiff ones RIGHT", 93, y.reached(31, -1));
        Check.due("the last", 0, y.reached(31, 92));
        Check.due("behind the last", NONE, y.reached(31, 93));
        FoldGates z = Check.told("fold 1;hurdle post 0 0 0;beast ewe 1;beast ram 1;");
        Check.due("a post", NONE, z.reached(1, -1));
        Check.due("a post", NONE, z.reached(1, 0));
    }

    private static void reachedLeastRows() {
        Check.by("REACHED: of several rows of the least, by numbers");
        FoldGates x = Check.told("fold 1;hurdle swing 0 0 0;beast lamb 1;beast marked 1;beast ram 1;beast ewe 1;beast marked 1;");
        Check.due("marked ahead of ram and ewe", 1, x.reached(1, 0));
        x.run(1);
        Check.due("ram ahead of ewe", 2, x.reached(0, 0));
        FoldGates y = Check.told("fold 1;hurdle swing 0 0 0;beast ewe 1;beast ewe 1;beast ram 1;");
        Check.due("the first of two alike", 0, y.reached(1, 0));
        // h1 leads on to h0 but from LEFT alone: a marked one, then a blind, a ewe, a ram for h0
        FoldGates z = Check.told("fold 2;hurdle swing 0 1 0;hurdle swing 10 0 0;beast ram 1;beast marked 1;beast ewe 1;beast blind 1;");
        Check.due("reached(3, -1)", 1, z.reached(3, -1));
        Check.due("reached(3, 0)", 2, z.reached(3, 0));
        Check.due("reached(1, -1)", 2, z.reached(1, -1));
        Check.due("reached(1, 0): ram, ram", 0, z.reached(1, 0));
        Check.due("reached(1, 1)", 0, z.reached(1, 1));
    }

    private static void comesOneAndAll() {
        Check.by("COMES: how many standings (bits) can be REACHED");
        Check.due("without BEASTS", 1, Check.told("fold 1;hurdle swing 0 0 0;").comes());
        Check.due("of posts", 1, Check.told("fold 1;hurdle post 0 0 0;beast ewe 1;").comes());
        Check.due("of a lamb", 1, Check.told("fold 1;hurdle swing 0 0 0;beast lamb 1;").comes());
        Check.due("of a ewe", 2, Check.told("fold 1;hurdle swing 0 0 0;beast ewe 1;").comes());
        Check.due("all of 5", 32, Check.told(COUNTER).comes());
        FoldGates x = Check.told(STIFF_COUNTER);
        Check.due("pushes are no bits", 32, x.comes());
        for (int stands = 0; stands < 32; stands++) Check.due("reached", 1, x.reached(stands, -1) >= 0 ? 1 : 0);
        FoldGates y = Check.told("fold 1;hurdle swing 0 0 0;beast marked 1;");
        Check.due("from LEFT", 2, y.comes());
        y.run(0);
        Check.due("from RIGHT", 1, y.comes());
        Check.due("back it comes not", NONE, y.reached(0, -1));
    }

    private static void roundRefused() {
        Check.by("round: TAIL (what = 0), how many runs later (1). BAD");
        FoldGates x = Check.told(Check.ALL_SORTS);
        due("round(4, 0)", 0, x.round(4, 0));
        due("round(4, 1)", 0, x.round(4, 1));
        for (int beast : new int[] {-1, 5, LEAST, MOST}) {
            Check.due("round(" + beast + ", 0)", BAD, x.round(beast, 0));
            Check.due("round(" + beast + ", 1)", BAD, x.round(beast, 1));
        }
        for (int what : new int[] {-1, 2, LEAST, MOST}) Check.due("round(0, " + what + ")", BAD, x.round(0, what));
    }

    private static void dueRound(FoldGates x, int beast, int tail, int later) {
        Check.due("round(" + beast + ", 0)", tail, x.round(beast, 0));
        Check.due("round(" + beast + ", 1)", later, x.round(beast, 1));
    }

    private static void rounds() {
        Check.by("ROUND: TAIL; how many runs later it is that for the first time");
        FoldGates x = Check.told(COUNTER);
        dueRound(x, 0, 0, 32);
        dueRound(x, 1, 0, 1);
        x.dawn(13);
        dueRound(x, 0, 0, 32);
        FoldGates y = Check.told("fold 1;hurdle swing 0 0 0;beast marked 1;beast blind 1;beast ram 1;");
        dueRound(y, 0, 1, 1);
        dueRound(y, 1, 0, 1);
        dueRound(y, 2, 0, 2);
        y.run(0);
        dueRound(y, 0, 0, 1);
        dueRound(y, 1, 1, 1);
    }

    private static void roundByThree() {
        Check.by("ROUND: how often stiff ones were PUSHED leaves as much over by 3");
        dueRound(Check.told(STIFF_COUNTER), 0, 0, 96);
        FoldGates x = Check.told("fold 1;hurdle stiff 0 0 0;beast ewe 1;");
        for (int k = 0; k < 4; k++) {
            dueRound(x, 0, 0, 6);
            x.run(0);
        }
        dueRound(Check.told("fold 1;hurdle post 0 0 0;beast ewe 1;"), 0, 0, 1);
        dueRound(Check.told("fold 1;hurdle swing 0 0 0;beast ewe 1;"), 0, 0, 2);
        // h1 stands as before behind 2, pushes of the stiff h0 need 6
        dueRound(Check.told("fold 1;hurdle stiff 0 0 0;hurdle swing 10 10 0;beast ewe 1;"), 0, 0, 6);
    }

    private static void sticksEdges() {
        Check.by("STICKS: HURDLES (bits) each of which alone, were it a post as it stands now");
        for (int hurdles = 1; hurdles <= 5; hurdles++) {
            FoldGates x = Check.told("fold 1;" + "hurdle swing 0 0 0;".repeat(hurdles) + "beast ewe 1;");
            x.row(0, 0, 24);
            Check.due("of none", (1 << hurdles) - 1, x.sticks(0, 24, 0));
            Check.due("of 12", (1 << hurdles) - 1, x.sticks(0, 0, 12));
        }
        FoldGates y = Check.told("fold 2;hurdle swing 0 1 0;beast ewe 1;");
        y.row(0, 0, 24);
        Check.due("12 ewes LEFT", 1, y.sticks(0, 0, 12));
        y.set(0, 23, 1);
        Check.due("the twelfth RIGHT", 0, y.sticks(0, 0, 12));
        Check.due("the eleven ahead of it", 1, y.sticks(0, 0, 11));
        y.run(0);
        Check.due("it stands RIGHT now", 0, y.sticks(0, 0, 1));
        Check.due("it stands RIGHT now", 1, y.sticks(0, 22, 1));
    }

    private static void sticksOfAPost() {
        Check.by("STICKS: a tied one that is stuck stays; one that is stuck turns none");
        FoldGates x = Check.told("fold 3;hurdle swing 0 1 0;hurdle swing 10 2 1;beast ewe 1;");
        Check.fill(x, 0, 0, 1, 0, 0);
        Check.due("none sticks: neither fits", 0, x.sticks(0, 0, 1));
        Check.due("either: it comes into 0", 3, x.sticks(0, 2, 1));
        FoldGates y = Check.told("fold 2;hurdle post 0 1 0;hurdle swing 0 1 0;beast ewe 1;");
        Check.fill(y, 0, 0, 0, 0, 1);
        Check.due("as if none stuck: the post h0", 1, y.sticks(0, 0, 2));
        Check.due("ewe LEFT: both", 3, y.sticks(0, 0, 1));
    }

    private static void theftEdges() {
        Check.by("theft: BAD: BEAST");
        FoldGates x = Check.told(Check.ALL_SORTS);
        x.row(0, 0, 24);
        due("theft(4, 0, 0, 24)", 0, x.theft(4, 0, 0, 24));
        for (int beast : new int[] {-1, 5, LEAST, MOST}) {
            Check.due("theft(" + beast + ", 0, 0, 1)", BAD, x.theft(beast, 0, 0, 1));
            Check.due("theft(" + beast + ", 1, 0, 1): BAD is ahead of NULL", BAD, x.theft(beast, 1, 0, 1));
            Check.due("theft(" + beast + ", 0, 24, 1): BAD is ahead of PLACE", BAD, x.theft(beast, 0, 24, 1));
            Check.due("theft(" + beast + ", 0, 0, 0)", BAD, x.theft(beast, 0, 0, 0));
        }
    }

    private static void theftOfBeasts() {
        Check.by("THEFT: how many come into another PEN");
        FoldGates x = Check.told("fold 2;hurdle swing 0 1 0;beast ewe 1;beast lamb 1;beast blind 1;");
        x.row(0, 0, 24);
        Check.due("of none", 0, x.theft(0, 0, 0, 0));
        Check.due("of one", 1, x.theft(0, 0, 0, 1));
        Check.due("all of 24, the same one each", 24, x.theft(0, 0, 0, 24));
        Check.due("by a lamb", 0, x.theft(1, 0, 0, 24));
        x.set(0, 12, 2);
        Check.due("a blind one ends it", 12, x.theft(0, 0, 0, 24));
        x.set(0, 0, 2);
        Check.due("a blind one first", 0, x.theft(0, 0, 0, 24));
    }

    private static void mixedEdges() {
        Check.by("MIXED: PENS (bits) into which some of two unlike SORTS come");
        FoldGates x = Check.told("fold 6;hurdle swing 0 5 0;beast ewe 1;beast ewe 1;beast lamb 1;beast ram 1;");
        x.row(0, 0, 24);
        Check.due("of none", 0, x.mixed(0, 0, 0));
        Check.due("of one", 0, x.mixed(0, 0, 1));
        Check.due("24 of one SORT", 0, x.mixed(0, 0, 24));
        x.set(0, 22, 1);
        Check.due("two of one SORT", 0, x.mixed(0, 0, 24));
        x.set(0, 23, 2);
        Check.due("a lamb comes last, RIGHT", 32, x.mixed(0, 0, 24));
        Check.due("ahead of it", 0, x.mixed(0, 0, 23));
        Check.fill(x, 1, 0, 0, 3, 3);
        // ewe LEFT, ewe RIGHT, stands LEFT; ram RIGHT, ram LEFT
        Check.due("the first and the last PEN", 33, x.mixed(1, 0, 4));
        Check.due("the last PEN", 32, x.mixed(1, 0, 3));
        x.run(2);
        Check.due("who is in it is not asked", 0, x.mixed(1, 0, 2));
    }

    private static void changesNothing() {
        Check.by("FORETOLD (nothing changes)");
        FoldGates x = Check.told(STIFF_COUNTER);
        x.row(0, 0, 24);
        x.runs(0, 0, 8);
        for (int k = 0; k < 2; k++) {
            Check.due("stood: a ewe comes into 0 but from all RIGHT", 31, x.stood(0, 0, 1, 0));
            x.sticks(0, 0, 12);
            x.theft(0, 0, 0, 24);
            x.mixed(0, 0, 24);
            x.ahead(0, 1, 1);
            x.reached(31, 3);
            x.comes();
            x.round(0, 1);
            Check.due("count(4)", 8, x.count(4));
            Check.due("count(5)", 8, x.count(5));
            Check.due("count(6)", 8, x.count(6));
            Check.due("hurdle(4, 5)", 8, x.hurdle(4, 5));
            Check.due("hurdle(3, 5)", 3, x.hurdle(3, 5));
            Check.due("hurdle(2, 5)", 0, x.hurdle(2, 5));
        }
    }
}
