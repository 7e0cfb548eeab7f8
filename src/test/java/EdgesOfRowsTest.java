/** Promises 1 to 5: each sentence that names an edge, at the last number as told and the first that is not. */
public final class EdgesOfRowsTest {
    private static final int BAD = FoldGates.BAD, NULL = Check.NULL, PLACE = Check.PLACE;
    private static final int LEAST = Integer.MIN_VALUE, MOST = Integer.MAX_VALUE;

    /** Beast b has HEAVY b + 1, and all come into pen 0: what is in a row can be weighed. */
    private static final String WEIGHED = "fold 1;hurdle post 0 0 0;beast lamb 1;beast lamb 2;beast lamb 3;"
            + "beast lamb 4;beast lamb 5;beast lamb 6;beast lamb 7;beast lamb 8;";

    public static void main(String[] args) {
        missingAtFirst();
        itemsAreNoneAtFirst();
        rowNumbers();
        rowLanes();
        rowItems();
        rowInPlaceOfWhatIsThere();
        rowFoundChangesNothing();
        setRows();
        setPlaces();
        setLowestBits();
        copyRows();
        copyMissing();
        copyLanes();
        copyPlaces();
        copyBeyondAnEnd();
        copyOfNone();
        copyOfAll();
        copyAsTheyWereAhead();
        copyFoundChangesNothing();
        drops();
        dropAndRowAgain();
        Check.end();
    }

    /** The item at a place, as a beast that runs and is undone. */
    private static int itemAt(FoldGates x, int row, int i) {
        int before = x.pen(0, 1);
        if (x.runs(row, i, 1) < 0) return -1;
        int heavy = x.pen(0, 1) - before;
        x.undo();
        return heavy - 1;
    }

    private static void dueItems(FoldGates x, int row, int... want) {
        for (int i = 0; i < want.length; i++) {
            Check.due("item " + i + " of row " + row, want[i], itemAt(x, row, i));
        }
    }

    private static void missingAtFirst() {
        Check.by("ROWS 0 .. 7 are missing (at first)");
        FoldGates x = new FoldGates();
        Check.due("count(0)", 0, x.count(0));
        for (int row = 0; row <= 7; row++) {
            Check.due("set(" + row + ", 0, 0)", NULL, x.set(row, 0, 0));
            Check.due("copy(" + row + ", 0, " + row + ", 0, 0)", NULL, x.copy(row, 0, row, 0, 0));
            Check.due("drop(" + row + ")", NULL, x.drop(row));
        }
        for (int row = 0; row <= 7; row++) {
            Check.due("row(" + row + ", 0, 1)", 1, x.row(row, 0, 1));
            Check.due("count(0)", row + 1, x.count(0));
        }
    }

    private static void itemsAreNoneAtFirst() {
        Check.by("ITEMS, 0 at first");
        FoldGates x = Check.told(WEIGHED);
        for (int lane = 0; lane <= 2; lane++) {
            x.row(lane, lane, 40);
            dueItems(x, lane, 0, 0);
            Check.due("item 39", 0, itemAt(x, lane, 39));
        }
    }

    private static void rowNumbers() {
        Check.by("row: BAD: ROW");
        FoldGates x = new FoldGates();
        Check.due("row(0, 0, 1)", 1, x.row(0, 0, 1));
        Check.due("row(7, 0, 1)", 1, x.row(7, 0, 1));
        for (int row : new int[] {-1, 8, LEAST, MOST}) Check.due("row(" + row + ", 0, 1)", BAD, x.row(row, 0, 1));
        Check.due("count(0)", 2, x.count(0));
    }

    private static void rowLanes() {
        Check.by("row: BAD: LANE");
        FoldGates x = new FoldGates();
        for (int lane = 0; lane <= 2; lane++) Check.due("row(0, " + lane + ", 1)", 1, x.row(0, lane, 1));
        for (int lane : new int[] {-1, 3, LEAST, MOST}) {
            Check.due("row(1, " + lane + ", 1)", BAD, x.row(1, lane, 1));
            Check.due("row(1, " + lane + ", -1): BAD is ahead of SIZE", BAD, x.row(1, lane, -1));
        }
        Check.due("drop(1)", NULL, x.drop(1));
    }

    private static void rowItems() {
        Check.by("row: n ITEMS, 0 to 40: BAD: n above 40; SIZE");
        FoldGates x = new FoldGates();
        Check.due("row(0, 0, 0)", 0, x.row(0, 0, 0));
        Check.due("row(1, 1, 39)", 39, x.row(1, 1, 39));
        Check.due("row(2, 2, 40)", 40, x.row(2, 2, 40));
        Check.due("row(3, 0, 41)", BAD, x.row(3, 0, 41));
        Check.due("row(3, 0, most)", BAD, x.row(3, 0, MOST));
        Check.due("row(3, 0, -1)", Check.SIZE, x.row(3, 0, -1));
        Check.due("row(3, 0, least)", Check.SIZE, x.row(3, 0, LEAST));
        Check.due("status()", 4, x.status());
        Check.due("row(8, 0, -1): BAD is ahead of SIZE", BAD, x.row(8, 0, -1));
        Check.due("count(0)", 3, x.count(0));
        Check.due("set(0, 0, 0) in a row of none", PLACE, x.set(0, 0, 0));
        Check.due("set(2, 39, 5)", 5, x.set(2, 39, 5));
    }

    private static void rowInPlaceOfWhatIsThere() {
        Check.by("row: in place of what is there");
        FoldGates x = Check.told(WEIGHED);
        Check.fill(x, 0, 3, 4, 5);
        Check.due("row(0, 0, 2)", 2, x.row(0, 0, 2));
        Check.due("one ROW yet", 1, x.count(0));
        dueItems(x, 0, 0, 0);
        Check.due("set(0, 2, 1) beyond the new end", PLACE, x.set(0, 2, 1));
        Check.due("set(0, 1, 300) by the new LANE", 44, x.set(0, 1, 300));
        Check.due("row(0, 2, 4)", 4, x.row(0, 2, 4));
        dueItems(x, 0, 0, 0, 0, 0);
        Check.due("set(0, 3, 300) by the new LANE", 300, x.set(0, 3, 300));
    }

    private static void rowFoundChangesNothing() {
        Check.by("What is refused, or found, changes nothing but status()");
        FoldGates x = Check.told(WEIGHED);
        Check.fill(x, 0, 3, 4, 5);
        x.row(0, 0, -1);
        x.row(0, 0, 41);
        x.row(0, 3, 1);
        dueItems(x, 0, 3, 4, 5);
        Check.due("drop(0)", 3, x.drop(0));
    }

    private static void setRows() {
        Check.by("set: BAD: ROW; NULL");
        FoldGates x = new FoldGates();
        x.row(0, 2, 1);
        x.row(7, 2, 1);
        Check.due("set(0, 0, 1)", 1, x.set(0, 0, 1));
        Check.due("set(7, 0, 1)", 1, x.set(7, 0, 1));
        for (int row : new int[] {-1, 8, LEAST, MOST}) {
            Check.due("set(" + row + ", 0, 1)", BAD, x.set(row, 0, 1));
            Check.due("set(" + row + ", -1, 1): BAD is ahead of PLACE", BAD, x.set(row, -1, 1));
        }
        Check.due("set(1, 0, 1)", NULL, x.set(1, 0, 1));
        Check.due("set(1, -1, 1): NULL is ahead of PLACE", NULL, x.set(1, -1, 1));
        x.drop(7);
        Check.due("set(7, 0, 1)", NULL, x.set(7, 0, 1));
    }

    private static void setPlaces() {
        Check.by("set: PLACE");
        FoldGates x = new FoldGates();
        for (int n : new int[] {1, 2, 39, 40}) {
            x.row(0, 1, n);
            Check.due("set(0, 0, 7) of " + n, 7, x.set(0, 0, 7));
            Check.due("set(0, n - 1, 7) of " + n, 7, x.set(0, n - 1, 7));
            Check.due("set(0, n, 7) of " + n, PLACE, x.set(0, n, 7));
            Check.due("set(0, -1, 7) of " + n, PLACE, x.set(0, -1, 7));
            Check.due("set(0, least, 7) of " + n, PLACE, x.set(0, LEAST, 7));
            Check.due("set(0, most, 7) of " + n, PLACE, x.set(0, MOST, 7));
        }
        x.row(0, 1, 0);
        Check.due("set(0, 0, 7) of none", PLACE, x.set(0, 0, 7));
        Check.due("status()", 2, x.status());
    }

    private static void setLowestBits() {
        Check.by("set: its lowest bits, as many as the LANE has");
        FoldGates x = new FoldGates();
        for (int lane = 0; lane <= 2; lane++) x.row(lane, lane, 40);
        int[][] bytes = {{0, 0}, {127, 127}, {128, -128}, {255, -1}, {256, 0}, {257, 1}, {-1, -1}, {-128, -128},
            {-129, 127}, {-256, 0}, {MOST, -1}, {LEAST, 0}, {32768, 0}, {-32641, 127}};
        for (int[] v : bytes) Check.due("byte " + v[0], v[1], x.set(0, 39, v[0]));
        int[][] shorts = {{0, 0}, {128, 128}, {32767, 32767}, {32768, -32768}, {65535, -1}, {65536, 0}, {-1, -1},
            {-32768, -32768}, {-32769, 32767}, {-65536, 0}, {MOST, -1}, {LEAST, 0}};
        for (int[] v : shorts) Check.due("short " + v[0], v[1], x.set(1, 0, v[0]));
        for (int v : new int[] {0, 65536, -65537, MOST, LEAST, -1}) Check.due("int " + v, v, x.set(2, 20, v));
    }

    private static void copyRows() {
        Check.by("copy: BAD: ROWS");
        FoldGates x = new FoldGates();
        x.row(0, 0, 1);
        x.row(7, 0, 1);
        Check.due("copy(0, 0, 7, 0, 1)", 1, x.copy(0, 0, 7, 0, 1));
        Check.due("copy(7, 0, 0, 0, 1)", 1, x.copy(7, 0, 0, 0, 1));
        for (int row : new int[] {-1, 8, LEAST, MOST}) {
            Check.due("copy from " + row, BAD, x.copy(row, 0, 0, 0, 1));
            Check.due("copy to " + row, BAD, x.copy(0, 0, row, 0, 1));
            Check.due("copy from " + row + " to a missing one", BAD, x.copy(row, 0, 1, 0, 1));
            Check.due("copy from a missing one to " + row, BAD, x.copy(1, 0, row, 0, 1));
            Check.due("copy to " + row + " of -1", BAD, x.copy(0, 0, row, 0, -1));
        }
    }

    private static void copyMissing() {
        Check.by("copy: NULL, ahead of STORE and PLACE");
        FoldGates x = new FoldGates();
        x.row(0, 1, 2);
        Check.due("copy from a missing one", NULL, x.copy(1, 0, 0, 0, 1));
        Check.due("copy to a missing one", NULL, x.copy(0, 0, 1, 0, 1));
        Check.due("copy of none to a missing one", NULL, x.copy(0, 0, 1, 0, 0));
        Check.due("copy from a place beyond to a missing one", NULL, x.copy(0, 3, 1, 0, 1));
        Check.due("copy of -1 from a missing one", NULL, x.copy(1, -1, 0, 0, -1));
        Check.due("status()", 1, x.status());
    }

    private static void copyLanes() {
        Check.by("copy: STORE (ROWS of two LANES), ahead of PLACE");
        FoldGates x = new FoldGates();
        for (int row = 0; row < 6; row++) x.row(row, row % 3, 2);
        for (int a = 0; a < 6; a++) {
            for (int b = 0; b < 6; b++) {
                boolean alike = a % 3 == b % 3;
                Check.due("copy(" + a + ", 0, " + b + ", 0, 2)", alike ? 2 : Check.STORE, x.copy(a, 0, b, 0, 2));
                Check.due("copy of none", alike ? 0 : Check.STORE, x.copy(a, 0, b, 0, 0));
                Check.due("copy beyond", alike ? PLACE : Check.STORE, x.copy(a, 0, b, 1, 2));
            }
        }
    }

    private static void copyPlaces() {
        Check.by("copy: PLACE (i, j, n below 0)");
        FoldGates x = new FoldGates();
        x.row(0, 0, 3);
        x.row(1, 0, 3);
        Check.due("copy(0, 0, 1, 0, 0)", 0, x.copy(0, 0, 1, 0, 0));
        for (int v : new int[] {-1, -3, LEAST}) {
            Check.due("i is " + v, PLACE, x.copy(0, v, 1, 0, 1));
            Check.due("j is " + v, PLACE, x.copy(0, 0, 1, v, 1));
            Check.due("n is " + v, PLACE, x.copy(0, 0, 1, 0, v));
            Check.due("n is " + v + " from the ends", PLACE, x.copy(0, 3, 1, 3, v));
            Check.due("i is " + v + ", of none", PLACE, x.copy(0, v, 1, 0, 0));
            Check.due("j is " + v + ", of none", PLACE, x.copy(0, 0, 1, v, 0));
        }
        Check.due("i, j, n are the least", PLACE, x.copy(0, LEAST, 1, LEAST, LEAST));
        Check.due("status()", 2, x.status());
    }

    private static void copyBeyondAnEnd() {
        Check.by("copy: PLACE (beyond an end)");
        FoldGates x = new FoldGates();
        x.row(0, 2, 5);
        x.row(1, 2, 3);
        Check.due("up to the end of b", 3, x.copy(0, 0, 1, 0, 3));
        Check.due("beyond the end of b", PLACE, x.copy(0, 0, 1, 0, 4));
        Check.due("up to the end of a", 3, x.copy(0, 2, 1, 0, 3));
        Check.due("beyond the end of a", PLACE, x.copy(0, 3, 1, 0, 3));
        Check.due("from the last of a", 1, x.copy(0, 4, 1, 2, 1));
        Check.due("from behind the last of a", PLACE, x.copy(0, 5, 1, 2, 1));
        Check.due("to behind the last of b", PLACE, x.copy(0, 4, 1, 3, 1));
        Check.due("n is the most", PLACE, x.copy(0, 1, 1, 1, MOST));
        Check.due("i is the most", PLACE, x.copy(0, MOST, 1, 0, 1));
        Check.due("j is the most", PLACE, x.copy(0, 0, 1, MOST, 1));
        Check.due("all are the most", PLACE, x.copy(0, MOST, 1, MOST, MOST));
    }

    private static void copyOfNone() {
        Check.by("copy of no ITEMS");
        FoldGates x = new FoldGates();
        x.row(0, 2, 5);
        x.row(1, 2, 3);
        x.row(2, 2, 0);
        Check.due("at both ends", 0, x.copy(0, 5, 1, 3, 0));
        Check.due("beyond the end of a", PLACE, x.copy(0, 6, 1, 3, 0));
        Check.due("beyond the end of b", PLACE, x.copy(0, 5, 1, 4, 0));
        Check.due("from a row of none", 0, x.copy(2, 0, 1, 0, 0));
        Check.due("to a row of none", 0, x.copy(1, 0, 2, 0, 0));
        Check.due("one from a row of none", PLACE, x.copy(2, 0, 1, 0, 1));
        Check.due("one to a row of none", PLACE, x.copy(1, 0, 2, 0, 1));
    }

    private static void copyOfAll() {
        Check.by("copy of 40 ITEMS");
        FoldGates x = Check.told(WEIGHED);
        x.row(0, 1, 40);
        x.row(1, 1, 40);
        x.set(0, 0, 6);
        x.set(0, 39, 7);
        Check.due("copy(0, 0, 1, 0, 40)", 40, x.copy(0, 0, 1, 0, 40));
        Check.due("the first", 6, itemAt(x, 1, 0));
        Check.due("the last", 7, itemAt(x, 1, 39));
        Check.due("copy(0, 0, 1, 0, 41)", PLACE, x.copy(0, 0, 1, 0, 41));
        Check.due("copy(0, 39, 1, 0, 1)", 1, x.copy(0, 39, 1, 0, 1));
        Check.due("the first is the last one then", 7, itemAt(x, 1, 0));
        Check.due("from which it came stays", 6, itemAt(x, 0, 0));
    }

    private static void copyAsTheyWereAhead() {
        Check.by("copy: as they were ahead");
        FoldGates x = Check.told(WEIGHED);
        Check.fill(x, 0, 1, 2, 3, 4, 5);
        Check.due("upon itself, up", 4, x.copy(0, 0, 0, 1, 4));
        dueItems(x, 0, 1, 1, 2, 3, 4);
        Check.fill(x, 0, 1, 2, 3, 4, 5);
        Check.due("upon itself, down", 3, x.copy(0, 2, 0, 0, 3));
        dueItems(x, 0, 3, 4, 5, 4, 5);
        Check.due("upon itself, in place", 5, x.copy(0, 0, 0, 0, 5));
        dueItems(x, 0, 3, 4, 5, 4, 5);
    }

    private static void copyFoundChangesNothing() {
        Check.by("What is refused, or found, changes nothing but status()");
        FoldGates x = Check.told(WEIGHED);
        Check.fill(x, 0, 1, 2, 3);
        Check.fill(x, 1, 4, 5);
        x.copy(0, 0, 1, 0, 3);
        x.copy(0, 2, 1, 0, 2);
        x.copy(0, 0, 1, 0, -1);
        dueItems(x, 0, 1, 2, 3);
        dueItems(x, 1, 4, 5);
        x.set(0, 3, 7);
        x.set(0, -1, 7);
        dueItems(x, 0, 1, 2, 3);
        dueItems(x, 1, 4, 5);
    }

    private static void drops() {
        Check.by("drop: how many ITEMS it had. BAD; NULL");
        FoldGates x = new FoldGates();
        x.row(0, 0, 40);
        x.row(7, 2, 0);
        Check.due("drop(0)", 40, x.drop(0));
        Check.due("status()", 0, x.status());
        Check.due("drop(7)", 0, x.drop(7));
        Check.due("drop(0) again", NULL, x.drop(0));
        Check.due("drop(7) again", NULL, x.drop(7));
        Check.due("status()", 1, x.status());
        for (int row : new int[] {-1, 8, LEAST, MOST}) Check.due("drop(" + row + ")", BAD, x.drop(row));
    }

    private static void dropAndRowAgain() {
        Check.by("drop: a ROW is missing from now on");
        FoldGates x = Check.told(WEIGHED);
        Check.fill(x, 3, 5, 6);
        x.drop(3);
        Check.due("set(3, 0, 0)", NULL, x.set(3, 0, 0));
        Check.due("copy(3, 0, 3, 0, 0)", NULL, x.copy(3, 0, 3, 0, 0));
        Check.due("runs(3, 0, 1)", NULL, x.runs(3, 0, 1));
        Check.due("stood(3, 0, 0, 0)", NULL, x.stood(3, 0, 0, 0));
        Check.due("sticks(3, 0, 0)", NULL, x.sticks(3, 0, 0));
        Check.due("theft(0, 3, 0, 0)", NULL, x.theft(0, 3, 0, 0));
        Check.due("mixed(3, 0, 0)", NULL, x.mixed(3, 0, 0));
        Check.due("count(0)", 0, x.count(0));
        Check.due("row(3, 0, 2)", 2, x.row(3, 0, 2));
        dueItems(x, 3, 0, 0);
    }
}
