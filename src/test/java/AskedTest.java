/** Promises 26 to 29, and 31 as far as as() goes. */
public final class AskedTest {
    private static final int BAD = FoldGates.BAD;

    public static void main(String[] args) {
        kinds();
        takenAs();
        asks();
        asksOfLaterBeasts();
        traceStays();
        Check.end();
    }

    private static void kinds() {
        FoldGates x = Check.told(Check.ALL_SORTS);
        for (int beast = 0; beast < 5; beast++) Check.due("kind(" + beast + ")", beast + 1, x.kind(beast));
        Check.due("kind(5)", BAD, x.kind(5));
        Check.due("kind(-1)", BAD, x.kind(-1));
        Check.due("kind(0) without a FOLD", BAD, new FoldGates().kind(0));
    }

    private static void takenAs() {
        FoldGates x = Check.told(Check.ALL_SORTS);
        int[] kindsOf = {0b000011, 0b000111, 0b001011, 0b010001, 0b110001};
        for (int beast = 0; beast < 5; beast++) {
            for (int kind = 0; kind < 6; kind++) {
                boolean is = (kindsOf[beast] >> kind & 1) == 1;
                Check.due("as(" + beast + ", " + kind + ")", is ? beast : Check.KIND, x.as(beast, kind));
                Check.due("status()", is ? 0 : 3, x.status());
            }
        }
        x.as(0, 5);
        Check.due("as(0, 6)", BAD, x.as(0, 6));
        Check.due("as(0, -1)", BAD, x.as(0, -1));
        Check.due("as(5, 0)", BAD, x.as(5, 0));
        Check.due("as(-1, 0)", BAD, x.as(-1, 0));
        Check.due("status() behind BAD stays", 3, x.status());
    }

    private static void asks() {
        FoldGates x = Check.told(Check.ALL_SORTS);
        // all come from the dawn: ewe into 0, ram into 2, lamb into 0
        Check.due("SIZE of a ewe", 30 + 0 + 0, x.ask(0, 0));
        Check.dueTrace(x, 11, 10, 21, 20);
        Check.due("MARK of a ewe", 0, x.ask(0, 1));
        Check.dueTrace(x, 21, 20);
        Check.due("SIZE of a ram", -(60 + 2 * (1 + 2)), x.ask(1, 0));
        Check.dueTrace(x, 12, 11, 10, 24, 21, 20);
        Check.due("MARK of a ram", 6, x.ask(1, 1));
        Check.dueTrace(x, 24, 21, 20);
        Check.due("SIZE of a lamb", 9 + 2 + 0 - 1000, x.ask(2, 0));
        Check.dueTrace(x, 11, 10, 22, 21, 20);
        Check.due("MARK of a lamb", 2 - 1000, x.ask(2, 1));
        Check.dueTrace(x, 22, 21, 20);
        Check.due("SIZE of a blind one", 25 - 100, x.ask(3, 0));
        Check.dueTrace(x, 13, 10);
        Check.due("MARK of a blind one", 3 + 75, x.ask(3, 1));
        Check.dueTrace(x, 23, 20, 13, 10);
        Check.due("SIZE of a marked one", 2 * (40 - 100), x.ask(4, 0));
        Check.dueTrace(x, 14, 13, 10);
        Check.due("MARK of a marked one", 4 + 120, x.ask(4, 1));
        Check.dueTrace(x, 23, 20, 14, 13, 10);
    }

    /** The PEN into which it would come now, so that runs between change what is asked. */
    private static void asksOfLaterBeasts() {
        FoldGates x = Check.told("fold 6;hurdle swing 3 5 0;beast lamb 99;beast ram 1;beast ewe 7;");
        Check.due("MARK of ewe 2, LEFT", 2 + 3, x.ask(2, 1));
        Check.due("SIZE of ewe 2", 7 + 5, x.ask(2, 0));
        Check.due("MARK of ram 1", 2 * (1 + 5), x.ask(1, 1));
        x.run(2);
        Check.due("MARK of ewe 2, RIGHT", 2 + 5, x.ask(2, 1));
        Check.due("SIZE of lamb 0", 99 + 0 + 5 - 1000, x.ask(0, 0));
        Check.due("MARK of ram 1", 2 * (1 + 3), x.ask(1, 1));
    }

    private static void traceStays() {
        FoldGates x = Check.told(Check.ALL_SORTS);
        x.ask(4, 0);
        Check.due("ask(5, 0)", BAD, x.ask(5, 0));
        Check.due("ask(-1, 0)", BAD, x.ask(-1, 0));
        Check.due("ask(0, 2)", BAD, x.ask(0, 2));
        Check.due("ask(0, -1)", BAD, x.ask(0, -1));
        Check.dueTrace(x, 14, 13, 10);
        x.run(0);
        x.dawn(0);
        Check.read(x, "fold 1;hurdle post 0 0 0;");
        Check.dueTrace(x, 14, 13, 10);
        Check.due("trace(-1)", FoldGates.NONE, x.trace(-1));
        Check.due("trace(16)", FoldGates.NONE, x.trace(16));
        Check.due("trace(most)", FoldGates.NONE, x.trace(Integer.MAX_VALUE));
        Check.due("trace(least)", FoldGates.NONE, x.trace(Integer.MIN_VALUE));
    }
}
