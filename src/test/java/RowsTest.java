/** Promises 1 to 5, and 31 as far as rows go. */
public final class RowsTest {
    private static final int BAD = FoldGates.BAD;

    public static void main(String[] args) {
        newObject();
        rows();
        sets();
        copies();
        copiesRefused();
        drops();
        statusOfRows();
        Check.end();
    }

    private static void newObject() {
        FoldGates x = new FoldGates();
        for (int what = 0; what < 8; what++) Check.due("new, count(" + what + ")", 0, x.count(what));
        Check.due("new, status()", 0, x.status());
        Check.due("new, fault()", 0, x.fault());
        Check.due("new, trace(0)", FoldGates.NONE, x.trace(0));
        Check.due("new, comes()", FoldGates.STATE, x.comes());
        for (int row = 0; row < 8; row++) Check.due("new, drop(" + row + ")", Check.NULL, x.drop(row));
    }

    private static void rows() {
        FoldGates x = new FoldGates();
        Check.due("row(0, 0, 0)", 0, x.row(0, 0, 0));
        Check.due("row(7, 2, 40)", 40, x.row(7, 2, 40));
        Check.due("count(0)", 2, x.count(0));
        Check.due("row(-1, 0, 1)", BAD, x.row(-1, 0, 1));
        Check.due("row(8, 0, 1)", BAD, x.row(8, 0, 1));
        Check.due("row(0, -1, 1)", BAD, x.row(0, -1, 1));
        Check.due("row(0, 3, 1)", BAD, x.row(0, 3, 1));
        Check.due("row(0, 0, 41)", BAD, x.row(0, 0, 41));
        Check.due("row(0, 0, -1)", Check.SIZE, x.row(0, 0, -1));
        Check.due("row(0, 0, least)", Check.SIZE, x.row(0, 0, Integer.MIN_VALUE));
        Check.due("row(0, 3, -1): BAD is ahead of SIZE", BAD, x.row(0, 3, -1));
        Check.due("row(8, 0, -1): BAD is ahead of SIZE", BAD, x.row(8, 0, -1));
        Check.due("drop(7) is of 40 yet", 40, x.drop(7));
        x.row(1, 2, 3);
        x.set(1, 2, 9);
        Check.due("row(1, 2, 3) anew", 3, x.row(1, 2, 3));
        x.row(2, 2, 3);
        Check.due("copy of what is 0 again", 1, x.copy(1, 2, 2, 0, 1));
        FoldGates y = Check.told(Check.ALL_SORTS);
        y.row(0, 0, 1);
        y.set(0, 0, 4);
        y.row(0, 0, 1);
        Check.due("an item of a row made anew is 0", 0, y.runs(0, 0, 1));
    }

    private static void sets() {
        FoldGates x = new FoldGates();
        x.row(0, 0, 2);
        x.row(1, 1, 2);
        x.row(2, 2, 2);
        Check.due("set(0, 0, 127)", 127, x.set(0, 0, 127));
        Check.due("set(0, 0, 128)", -128, x.set(0, 0, 128));
        Check.due("set(0, 1, -129)", 127, x.set(0, 1, -129));
        Check.due("set(0, 1, 256)", 0, x.set(0, 1, 256));
        Check.due("set(1, 0, 32768)", -32768, x.set(1, 0, 32768));
        Check.due("set(1, 1, -32769)", 32767, x.set(1, 1, -32769));
        Check.due("set(2, 0, least)", Integer.MIN_VALUE, x.set(2, 0, Integer.MIN_VALUE));
        Check.due("set(2, 1, most)", Integer.MAX_VALUE, x.set(2, 1, Integer.MAX_VALUE));
        Check.due("set(0, 2, 0)", Check.PLACE, x.set(0, 2, 0));
        Check.due("set(0, -1, 0)", Check.PLACE, x.set(0, -1, 0));
        Check.due("set(0, most, 0)", Check.PLACE, x.set(0, Integer.MAX_VALUE, 0));
        Check.due("set(3, 0, 0)", Check.NULL, x.set(3, 0, 0));
        Check.due("set(3, -1, 0)", Check.NULL, x.set(3, -1, 0));
        Check.due("set(8, 0, 0)", BAD, x.set(8, 0, 0));
        Check.due("set(-1, 0, 0)", BAD, x.set(-1, 0, 0));
    }

    /** The pens tell which beasts a row holds. */
    private static void copies() {
        FoldGates x = Check.told("fold 4;hurdle post 0 1 0;beast ewe 1;beast ewe 2;beast ewe 4;beast ewe 8;");
        Check.fill(x, 0, 0, 1, 2, 3);
        Check.due("copy upon itself, up", 3, x.copy(0, 0, 0, 1, 3));
        x.runs(0, 0, 4);
        Check.due("beasts 0, 0, 1, 2", 1 + 1 + 2 + 4, x.pen(0, 1));
        x.dawn(0);
        Check.fill(x, 0, 0, 1, 2, 3);
        Check.due("copy upon itself, down", 3, x.copy(0, 1, 0, 0, 3));
        x.runs(0, 0, 4);
        Check.due("beasts 1, 2, 3, 3", 2 + 4 + 8 + 8, x.pen(0, 1));
        x.dawn(0);
        x.row(1, 2, 2);
        Check.due("copy(0, 2, 1, 0, 2)", 2, x.copy(0, 2, 1, 0, 2));
        x.runs(1, 0, 2);
        Check.due("beasts 3, 3", 16, x.pen(0, 1));
        Check.due("copy of none at the ends", 0, x.copy(0, 4, 1, 2, 0));
    }

    private static void copiesRefused() {
        FoldGates x = new FoldGates();
        x.row(0, 0, 4);
        x.row(1, 1, 4);
        x.row(2, 0, 2);
        Check.due("copy(8, 0, 0, 0, 1)", BAD, x.copy(8, 0, 0, 0, 1));
        Check.due("copy(0, 0, -1, 0, 1)", BAD, x.copy(0, 0, -1, 0, 1));
        Check.due("copy(3, 0, 9, 0, 1): BAD is ahead of NULL", BAD, x.copy(3, 0, 9, 0, 1));
        Check.due("copy(3, 0, 0, 0, 1)", Check.NULL, x.copy(3, 0, 0, 0, 1));
        Check.due("copy(0, 0, 3, -1, 1)", Check.NULL, x.copy(0, 0, 3, -1, 1));
        Check.due("copy(0, 9, 1, 0, 1): STORE is ahead of PLACE", Check.STORE, x.copy(0, 9, 1, 0, 1));
        Check.due("copy(0, 0, 1, 0, 0)", Check.STORE, x.copy(0, 0, 1, 0, 0));
        Check.due("copy(0, -1, 2, 0, 1)", Check.PLACE, x.copy(0, -1, 2, 0, 1));
        Check.due("copy(0, 0, 2, -1, 1)", Check.PLACE, x.copy(0, 0, 2, -1, 1));
        Check.due("copy(0, 0, 2, 0, -1)", Check.PLACE, x.copy(0, 0, 2, 0, -1));
        Check.due("copy(0, 3, 2, 0, 2)", Check.PLACE, x.copy(0, 3, 2, 0, 2));
        Check.due("copy(0, 0, 2, 0, 3)", Check.PLACE, x.copy(0, 0, 2, 0, 3));
        Check.due("copy(0, 5, 2, 0, 0)", Check.PLACE, x.copy(0, 5, 2, 0, 0));
        Check.due("copy(0, 1, 2, 0, most)", Check.PLACE, x.copy(0, 1, 2, 0, Integer.MAX_VALUE));
        Check.due("copy(0, most, 2, 0, 1)", Check.PLACE, x.copy(0, Integer.MAX_VALUE, 2, 0, 1));
        Check.due("copy(0, least, 2, 0, least)", Check.PLACE,
                x.copy(0, Integer.MIN_VALUE, 2, 0, Integer.MIN_VALUE));
    }

    private static void drops() {
        FoldGates x = new FoldGates();
        x.row(5, 1, 7);
        Check.due("drop(5)", 7, x.drop(5));
        Check.due("drop(5) again", Check.NULL, x.drop(5));
        Check.due("count(0)", 0, x.count(0));
        x.row(5, 1, 0);
        Check.due("drop(5) of none", 0, x.drop(5));
        Check.due("drop(8)", BAD, x.drop(8));
        Check.due("drop(-1)", BAD, x.drop(-1));
    }

    private static void statusOfRows() {
        FoldGates x = new FoldGates();
        x.row(0, 0, -1);
        Check.due("status behind SIZE", 4, x.status());
        x.row(9, 0, 1);
        Check.due("status behind BAD stays", 4, x.status());
        x.runs(0, 0, 1);
        Check.due("status behind STATE stays", 4, x.status());
        x.feed(0, 1);
        x.count(0);
        x.fold();
        Check.due("status behind calls without a row stays", 4, x.status());
        x.row(0, 0, 1);
        Check.due("status behind row", 0, x.status());
        x.set(0, 1, 1);
        Check.due("status behind PLACE", 2, x.status());
        x.set(0, 0, 1);
        Check.due("status behind set", 0, x.status());
        x.row(1, 1, 1);
        x.copy(0, 0, 1, 0, 1);
        Check.due("status behind STORE", 5, x.status());
        x.copy(0, 0, 0, 0, 1);
        Check.due("status behind copy", 0, x.status());
        x.drop(6);
        Check.due("status behind NULL", 1, x.status());
        x.drop(0);
        Check.due("status behind drop", 0, x.status());
    }
}
