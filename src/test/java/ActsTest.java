/** Promises 9 to 15, 24, 25 and 30: beasts that run, dawn, what is undone, images. */
public final class ActsTest {
    private static final int BAD = FoldGates.BAD, STATE = FoldGates.STATE, FULL = FoldGates.FULL;

    public static void main(String[] args) {
        everyKindAtASwing();
        everyKindAtAStiff();
        everyKindAtAPost();
        ties();
        tiesAreAheadOfTheNextHurdle();
        runsRefused();
        rowsOfRuns();
        pens();
        pensAreFull();
        dawns();
        undone();
        onlyTwentyFourActs();
        images();
        Check.end();
    }

    private static FoldGates one(String sort) {
        return Check.told("fold 2;hurdle " + sort + " 0 1 0;beast ewe 1;beast ram 2;beast lamb 3;beast blind 4;beast marked 5;");
    }

    /** From a standing a beast comes into a pen, and the hurdle stands so behind it. */
    private static void dueRun(FoldGates x, int stands, int beast, int pen, int then) {
        x.dawn(stands);
        Check.due("from " + stands + " run(" + beast + ")", pen, x.run(beast));
        Check.due("from " + stands + " behind run(" + beast + ")", then, x.count(5));
    }

    private static void everyKindAtASwing() {
        FoldGates x = one("swing");
        dueRun(x, 0, 0, 0, 1);
        Check.due("a ewe PUSHED it", 1, x.hurdle(0, 5));
        dueRun(x, 1, 0, 1, 0);
        dueRun(x, 0, 1, 1, 1);
        Check.due("a ram did not", 0, x.hurdle(0, 5));
        dueRun(x, 1, 1, 0, 0);
        dueRun(x, 0, 2, 0, 0);
        dueRun(x, 1, 2, 1, 1);
        dueRun(x, 0, 3, 0, 0);
        dueRun(x, 1, 3, 0, 0);
        dueRun(x, 0, 4, 1, 1);
        dueRun(x, 1, 4, 1, 1);
        Check.due("a marked one did not", 0, x.hurdle(0, 5));
    }

    private static void everyKindAtAStiff() {
        FoldGates x = one("stiff");
        int[] pens = {0, 0, 0, 1, 1, 1, 0};
        int[] stands = {0, 0, 1, 1, 1, 0, 0};
        for (int k = 0; k < pens.length; k++) {
            Check.due("ewe " + k + " at a stiff one", pens[k], x.run(0));
            Check.due("it stands behind ewe " + k, stands[k], x.count(5));
            Check.due("PUSHED", k + 1, x.hurdle(0, 5));
        }
        dueRun(x, 0, 1, 1, 1);
        dueRun(x, 1, 1, 0, 0);
        dueRun(x, 1, 2, 1, 1);
        dueRun(x, 1, 3, 0, 0);
        dueRun(x, 0, 4, 1, 1);
    }

    private static void everyKindAtAPost() {
        FoldGates x = one("post");
        for (int beast = 0; beast < 5; beast++) {
            dueRun(x, 0, beast, 0, 0);
            dueRun(x, 1, beast, 1, 1);
            Check.due("a post PUSHED by " + beast, beast == 0 ? 1 : 0, x.hurdle(0, 5));
        }
    }

    private static void ties() {
        FoldGates x = Check.told("fold 2;hurdle swing 0 1 0;hurdle post 0 1 0;hurdle swing 0 1 1;hurdle stiff 0 1 3;"
                + "beast ram 1;beast blind 1;beast ewe 1;");
        Check.due("a ram turns h3, that h2, h0 stays", 1, x.run(0));
        Check.due("they stand", 8 + 4, x.count(5));
        Check.due("a blind one turns it back", 0, x.run(1));
        Check.due("they stand", 0, x.count(5));
        Check.due("a blind one that finds it LEFT", 0, x.run(1));
        Check.due("turns none", 0, x.count(5));
        x.run(2);
        x.run(2);
        Check.due("a stiff one that was PUSHED twice turns none", 0, x.count(5));
        x.run(2);
        Check.due("PUSHED three times it turns what is tied", 8 + 4, x.count(5));
        Check.due("which was not PUSHED", 0, x.hurdle(2, 5));
        FoldGates y = Check.told("fold 2;hurdle post 0 1 0;hurdle swing 0 1 1;beast ram 1;");
        y.run(0);
        Check.due("a post that is tied stays", 2, y.count(5));
        FoldGates z = Check.told("fold 2;hurdle swing 0 1 0;hurdle post 0 1 1;beast ram 1;beast ewe 1;");
        z.run(0);
        z.run(1);
        Check.due("a post turns none", 0, z.count(5));
    }

    /** What is tied has turned over when the beast comes to it. */
    private static void tiesAreAheadOfTheNextHurdle() {
        FoldGates x = Check.told("fold 4;hurdle swing 0 1 0;hurdle swing 10 3 1;beast ewe 1;beast marked 1;beast blind 1;");
        Check.due("a ewe finds h0 RIGHT", 1, x.run(0));
        Check.due("and turns it LEFT again", 2, x.count(5));
        Check.due("a ewe goes RIGHT of h1", 3, x.run(0));
        Check.due("h0 is tied", 1, x.count(5));
        Check.due("a marked one", 3, x.run(1));
        Check.due("turns both", 2, x.count(5));
        Check.due("a blind one finds h0 RIGHT, goes LEFT", 0, x.run(2));
        Check.due("and leaves both LEFT", 0, x.count(5));
    }

    private static void runsRefused() {
        FoldGates x = new FoldGates();
        Check.due("run(0) without a FOLD", BAD, x.run(0));
        Check.due("runs(9, 0, 1) without a FOLD", STATE, x.runs(9, 0, 1));
        x = one("swing");
        Check.due("run(5)", BAD, x.run(5));
        Check.due("run(-1)", BAD, x.run(-1));
        Check.due("count(4) behind them", 0, x.count(4));
        Check.fill(x, 0, 0, 1, 5, -1);
        Check.due("runs(8, 0, 1)", BAD, x.runs(8, 0, 1));
        Check.due("runs(-1, 0, 1)", BAD, x.runs(-1, 0, 1));
        Check.due("runs(0, 0, 0)", BAD, x.runs(0, 0, 0));
        Check.due("runs(0, 0, 25)", BAD, x.runs(0, 0, 25));
        Check.due("runs(1, 0, 25): BAD is ahead of NULL", BAD, x.runs(1, 0, 25));
        Check.due("runs(1, -1, 1)", Check.NULL, x.runs(1, -1, 1));
        Check.due("status()", 1, x.status());
        Check.due("runs(0, 2, 3): PLACE is ahead of BAD items", Check.PLACE, x.runs(0, 2, 3));
        Check.due("runs(0, -1, 1)", Check.PLACE, x.runs(0, -1, 1));
        Check.due("runs(0, most, 24)", Check.PLACE, x.runs(0, Integer.MAX_VALUE, 24));
        Check.due("status()", 2, x.status());
        Check.due("runs(0, 0, 3)", BAD, x.runs(0, 0, 3));
        Check.due("runs(0, 3, 1)", BAD, x.runs(0, 3, 1));
        Check.due("status() behind BAD items", 2, x.status());
        Check.due("none ran", 0, x.count(6));
        Check.due("runs(0, 0, 2)", 0, x.runs(0, 0, 2));
        Check.due("status() behind runs", 0, x.status());
    }

    private static void rowsOfRuns() {
        FoldGates x = one("swing");
        Check.fill(x, 0, 4, 0, 0, 0, 1);
        Check.due("runs(0, 1, 3)", 0, x.runs(0, 1, 3));
        Check.due("three ACTS", 3, x.count(4));
        Check.due("they stand", 1, x.count(5));
        Check.due("runs(0, 4, 1)", 0, x.runs(0, 4, 1));
        Check.due("undo() of one", 3, x.undo());
        Check.due("three are in PENS", 3, x.count(6));
    }

    private static void pens() {
        FoldGates x = one("swing");
        int[] beasts = {0, 0, 1, 2, 3, 4};
        for (int beast : beasts) x.run(beast);
        // ewe 0, ewe 1, ram 1 (stands 1), lamb 1, blind 0, marked 1
        Check.due("pen(0, 0)", 2, x.pen(0, 0));
        Check.due("pen(0, 1)", 1 + 4, x.pen(0, 1));
        Check.due("pen(1, 0)", 4, x.pen(1, 0));
        Check.due("pen(1, 1)", 1 + 2 + 3 + 5, x.pen(1, 1));
        Check.due("count(6)", 6, x.count(6));
        Check.due("pen(2, 0)", BAD, x.pen(2, 0));
        Check.due("pen(-1, 0)", BAD, x.pen(-1, 0));
        Check.due("pen(0, 2)", BAD, x.pen(0, 2));
        Check.due("pen(0, -1)", BAD, x.pen(0, -1));
    }

    private static void pensAreFull() {
        FoldGates x = Check.told("fold 1;hurdle post 0 0 0;beast ewe 99;");
        x.row(0, 0, 24);
        for (int k = 0; k < 416; k++) x.runs(0, 0, 24);
        Check.due("count(6)", 416 * 24, x.count(6));
        Check.due("runs beyond 9999", FULL, x.runs(0, 0, 16));
        Check.due("none of them ran", 9984, x.count(6));
        Check.due("runs up to 9999", 0, x.runs(0, 0, 15));
        Check.due("run beyond 9999", FULL, x.run(0));
        Check.due("run(1) is BAD ahead of FULL", BAD, x.run(1));
        x.set(0, 24, 0);
        Check.due("runs of one more", FULL, x.runs(0, 0, 1));
        Check.due("status() behind FULL stays", 2, x.status());
        Check.due("pen(0, 1)", 9999 * 99, x.pen(0, 1));
        Check.due("PUSHED", 9999, x.hurdle(0, 5));
        Check.due("undo()", 23, x.undo());
        Check.due("run up to 9999", 0, x.run(0));
        x.dawn(0);
        Check.due("run behind DAWN", 0, x.run(0));
    }

    private static void dawns() {
        FoldGates x = new FoldGates();
        Check.due("dawn(-1) without a FOLD", STATE, x.dawn(-1));
        x = Check.told(Check.ALL_SORTS);
        x.run(0);
        Check.due("dawn(16)", BAD, x.dawn(16));
        Check.due("dawn(-1)", BAD, x.dawn(-1));
        Check.due("dawn(15)", 11, x.dawn(15));
        Check.due("posts stand so, too", 1, x.hurdle(2, 4));
        Check.due("none was PUSHED", 0, x.hurdle(3, 5));
        Check.due("PENS are empty", 0, x.count(6));
        Check.due("nor is any heavy", 0, x.pen(0, 1));
        Check.due("dawn(0)", 15, x.dawn(0));
        Check.due("ACTS", 3, x.count(4));
        x.undo();
        x.undo();
        Check.due("DAWN undone: they stand", 11, x.count(5));
        Check.due("PUSHED as before", 1, x.hurdle(3, 5));
        Check.due("in PENS as before", 1, x.pen(0, 0));
        Check.due("heavy as before", 30, x.pen(0, 1));
    }

    private static void undone() {
        FoldGates x = new FoldGates();
        Check.due("undo() without a FOLD", STATE, x.undo());
        x = one("stiff");
        Check.due("undo() of none", STATE, x.undo());
        x.run(0);
        x.run(0);
        Check.due("undo()", 1, x.undo());
        x.run(0);
        x.run(0);
        Check.due("the third push turns it", 1, x.count(5));
        Check.due("undo()", 2, x.undo());
        Check.due("it stands LEFT again", 0, x.count(5));
        Check.due("PUSHED twice", 2, x.hurdle(0, 5));
        Check.due("undo()", 1, x.undo());
        Check.due("undo()", 0, x.undo());
        Check.due("undo()", STATE, x.undo());
        Check.due("nothing is left", 0, x.count(6) + x.pen(0, 1) + x.hurdle(0, 5));
    }

    private static void onlyTwentyFourActs() {
        FoldGates x = one("swing");
        for (int k = 0; k < 30; k++) x.run(0);
        Check.due("ACTS kept", 24, x.count(4));
        for (int k = 23; k >= 0; k--) Check.due("undo()", k, x.undo());
        Check.due("undo() of what is forgotten", STATE, x.undo());
        Check.due("the oldest six stay", 6, x.count(6));
        Check.due("PUSHED", 6, x.hurdle(0, 5));
    }

    private static void images() {
        FoldGates x = new FoldGates();
        Check.due("image(2)", BAD, x.image(2));
        Check.due("image(-1)", BAD, x.image(-1));
        Check.due("image(1) without a FOLD", STATE, x.image(1));
        Check.due("restore(2)", BAD, x.restore(2));
        Check.due("restore(-1)", BAD, x.restore(-1));
        Check.read(x, Check.ALL_SORTS);
        Check.due("restore(0) of none", STATE, x.restore(0));
        x.run(0);
        Check.due("image(0)", 1, x.image(0));
        Check.due("ACTS stay", 1, x.count(4));
        Check.due("restore(1) of none", STATE, x.restore(1));
        x.run(0);
        Check.due("image(1)", 1, x.image(1));
        Check.read(x, "fold 1;hurdle post 0 0 0;");
        Check.due("restore(0)", 1, x.restore(0));
        Check.due("hurdles of then", 4, x.count(1));
        Check.due("beasts of then", 5, x.count(2));
        Check.due("pens of then", 4, x.count(3));
        Check.due("they stand as then", 11, x.count(5));
        Check.due("PUSHED as then", 1, x.hurdle(3, 5));
        Check.due("in PENS as then", 1, x.pen(0, 0));
        Check.due("heavy as then", 30, x.pen(0, 1));
        x.run(1);
        Check.due("restore(0) again", 1, x.restore(0));
        Check.due("no ACT can be undone", STATE, x.undo());
        Check.due("the image is as it was", 11, x.count(5));
        Check.due("restore(1)", 1, x.restore(1));
        Check.due("the other image", 2, x.count(6));
        x.image(0);
        x.dawn(0);
        x.restore(0);
        Check.due("an image kept anew", 2, x.count(6));
    }
}
