/** Promises 9 to 15, 24, 25, 30 and part 2: each sentence that names an edge, on both sides of it. */
public final class EdgesOfActsTest {
    private static final int BAD = FoldGates.BAD, STATE = FoldGates.STATE, FULL = FoldGates.FULL;
    private static final int NULL = Check.NULL, PLACE = Check.PLACE;
    private static final int LEAST = Integer.MIN_VALUE, MOST = Integer.MAX_VALUE;
    private static final String EIGHT = "beast ewe 1;beast ram 2;beast lamb 3;beast blind 4;beast marked 5;"
            + "beast ewe 6;beast ewe 7;beast ewe 99;";

    public static void main(String[] args) {
        runOfWhichBeasts();
        runWithoutAFold();
        runToEachPen();
        runThroughAllHurdles();
        stiffOnesByThree();
        stiffOnesBetweenOthers();
        pushesOfPosts();
        turnedOverOnce();
        runsOfHowMany();
        runsPlaces();
        runsItems();
        runsInOrder();
        fullAtTheLast();
        fullInOrder();
        dawnBits();
        dawnLeavesNothing();
        undoOfNone();
        undoUpToTwentyFour();
        undoOfARowOfRuns();
        undoOfDawns();
        hurdlesAsked();
        beastsAsked();
        pensAsked();
        imagesRefused();
        imagesApart();
        imagesOutliveFolds();
        restoredHasNoActs();
        counts();
        Check.end();
    }

    private static FoldGates one(String sort) {
        return Check.told("fold 2;hurdle " + sort + " 0 1 0;" + EIGHT);
    }

    private static FoldGates many(int hurdles) {
        return Check.told("fold 2;" + "hurdle swing 0 1 0;".repeat(hurdles) + EIGHT);
    }

    private static void runOfWhichBeasts() {
        Check.by("run: a BEAST RUNS. BAD");
        for (int beasts = 1; beasts <= 8; beasts++) {
            FoldGates x = Check.told("fold 1;hurdle post 0 0 0;" + "beast ewe 1;".repeat(beasts));
            Check.due("the first of " + beasts, 0, x.run(0));
            Check.due("the last of " + beasts, 0, x.run(beasts - 1));
            for (int beast : new int[] {beasts, -1, LEAST, MOST}) Check.due("run(" + beast + ")", BAD, x.run(beast));
            Check.due("count(6)", 2, x.count(6));
            Check.due("count(4)", 2, x.count(4));
        }
    }

    private static void runWithoutAFold() {
        Check.by("no FOLD");
        FoldGates x = new FoldGates();
        x.row(0, 0, 24);
        Check.due("run(0)", BAD, x.run(0));
        Check.due("runs(0, 0, 1)", STATE, x.runs(0, 0, 1));
        Check.due("runs(8, 0, 1): STATE is ahead of BAD", STATE, x.runs(8, 0, 1));
        Check.due("runs(0, 0, 25): STATE is ahead of BAD", STATE, x.runs(0, 0, 25));
        Check.due("runs(1, 0, 1): STATE is ahead of NULL", STATE, x.runs(1, 0, 1));
        Check.due("runs(0, 24, 1): STATE is ahead of PLACE", STATE, x.runs(0, 24, 1));
        Check.due("dawn(0)", STATE, x.dawn(0));
        Check.due("dawn(-1): STATE is ahead of BAD", STATE, x.dawn(-1));
        Check.due("undo()", STATE, x.undo());
        Check.due("hurdle(0, 0)", BAD, x.hurdle(0, 0));
        Check.due("heavy(0)", BAD, x.heavy(0));
        Check.due("pen(0, 0)", BAD, x.pen(0, 0));
        Check.due("status() stays", 0, x.status());
        Check.due("count(4)", 0, x.count(4));
    }

    private static void runToEachPen() {
        Check.by("till it is in a PEN");
        for (int pen = 0; pen < 6; pen++) {
            FoldGates x = Check.told("fold 6;hurdle swing " + pen + " " + (5 - pen) + " 0;beast ewe 9;");
            Check.due("LEFT", pen, x.run(0));
            Check.due("in it", 1, x.pen(pen, 0));
            Check.due("RIGHT", 5 - pen, x.run(0));
            Check.due("in all", 2, x.count(6));
        }
    }

    private static void runThroughAllHurdles() {
        Check.by("it comes to the HURDLE told last, from there to what is LEFT or RIGHT of it, and so on");
        FoldGates x = Check.told("fold 2;hurdle swing 0 1 0;hurdle swing 10 10 0;hurdle swing 11 11 0;"
                + "hurdle swing 12 12 0;hurdle swing 13 13 0;beast ewe 1;");
        Check.due("run(0)", 0, x.run(0));
        Check.due("all five were PUSHED", 31, x.count(5));
        for (int h = 0; h < 5; h++) Check.due("PUSHED", 1, x.hurdle(h, 5));
        Check.due("run(0)", 1, x.run(0));
        FoldGates y = Check.told("fold 2;hurdle swing 0 1 0;hurdle swing 0 1 0;beast ewe 1;");
        y.run(0);
        Check.due("the one told first is not come to", 2, y.count(5));
    }

    private static void stiffOnesByThree() {
        Check.by("a stiff one if it was PUSHED a number of times that 3 divides (that one, too)");
        FoldGates x = one("stiff");
        for (int pushes = 1; pushes <= 13; pushes++) {
            int stood = x.count(5);
            Check.due("push " + pushes, stood, x.run(0));
            Check.due("behind push " + pushes, pushes / 3 % 2, x.count(5));
            Check.due("PUSHED", pushes, x.hurdle(0, 5));
        }
    }

    private static void stiffOnesBetweenOthers() {
        Check.by("A ram, a lamb, a blind, a marked one PUSH none");
        FoldGates x = one("stiff");
        x.run(0);
        x.run(0);
        x.run(1);
        x.run(2);
        x.run(3);
        Check.due("PUSHED", 2, x.hurdle(0, 5));
        x.run(4);
        Check.due("it stands RIGHT", 1, x.count(5));
        Check.due("the third ewe goes RIGHT", 1, x.run(0));
        Check.due("and turns it LEFT", 0, x.count(5));
    }

    private static void pushesOfPosts() {
        Check.by("A post stays as it stands (a ewe PUSHES it, too)");
        FoldGates x = one("post");
        for (int k = 1; k <= 6; k++) {
            Check.due("run(0)", 0, x.run(0));
            Check.due("PUSHED", k, x.hurdle(0, 5));
            Check.due("it stands", 0, x.count(5));
        }
        for (int beast = 1; beast < 5; beast++) Check.due("run(" + beast + ")", 0, x.run(beast));
        Check.due("PUSHED", 6, x.hurdle(0, 5));
        x.dawn(1);
        for (int beast = 0; beast < 5; beast++) Check.due("RIGHT: run(" + beast + ")", 1, x.run(beast));
        Check.due("it stands", 1, x.count(5));
    }

    private static void turnedOverOnce() {
        Check.by("turns the one to which it is tied over, if that is no post (not on and on)");
        FoldGates x = Check.told("fold 2;hurdle swing 0 1 0;hurdle swing 0 1 1;hurdle swing 0 1 2;hurdle swing 0 1 3;"
                + "hurdle swing 0 1 4;beast ewe 1;");
        x.run(0);
        Check.due("h4 and h3 alone", 24, x.count(5));
        Check.due("h3 was not PUSHED", 0, x.hurdle(3, 5));
        x.run(0);
        Check.due("and back", 0, x.count(5));
        FoldGates y = Check.told("fold 2;hurdle swing 0 1 0;hurdle post 0 1 1;hurdle swing 0 1 2;beast ewe 1;");
        y.run(0);
        Check.due("a post stays, and what it is tied to", 4, y.count(5));
        FoldGates z = Check.told("fold 2;hurdle stiff 0 1 0;hurdle swing 0 1 1;beast ewe 1;beast blind 1;");
        z.run(0);
        Check.due("a stiff one that is tied turns at once", 3, z.count(5));
        z.run(1);
        z.run(1);
        Check.due("one that stands as it stood turns none", 0, z.count(5));
    }

    private static void runsOfHowMany() {
        Check.by("runs: n BEASTS (1 to 24). BAD: ROW, n");
        FoldGates x = one("swing");
        x.row(0, 0, 40);
        x.row(7, 2, 40);
        Check.due("runs(0, 0, 1)", 0, x.runs(0, 0, 1));
        Check.due("an ACT", 1, x.count(4));
        Check.due("runs(7, 0, 24)", 0, x.runs(7, 0, 24));
        Check.due("count(6)", 25, x.count(6));
        for (int n : new int[] {0, 25, -1, LEAST, MOST}) {
            Check.due("runs(0, 0, " + n + ")", BAD, x.runs(0, 0, n));
            Check.due("runs(1, 0, " + n + "): BAD is ahead of NULL", BAD, x.runs(1, 0, n));
            Check.due("runs(0, 41, " + n + "): BAD is ahead of PLACE", BAD, x.runs(0, 41, n));
        }
        for (int row : new int[] {-1, 8, LEAST, MOST}) Check.due("runs(" + row + ", 0, 1)", BAD, x.runs(row, 0, 1));
        Check.due("count(6)", 25, x.count(6));
    }

    private static void runsPlaces() {
        Check.by("runs: NULL; PLACE");
        FoldGates x = one("post");
        x.row(0, 0, 40);
        Check.due("runs(0, 16, 24)", 0, x.runs(0, 16, 24));
        Check.due("status()", 0, x.status());
        Check.due("runs(0, 17, 24)", PLACE, x.runs(0, 17, 24));
        Check.due("runs(0, 39, 1)", 0, x.runs(0, 39, 1));
        Check.due("runs(0, 39, 2)", PLACE, x.runs(0, 39, 2));
        Check.due("runs(0, 40, 1)", PLACE, x.runs(0, 40, 1));
        for (int i : new int[] {-1, -24, LEAST, MOST}) Check.due("runs(0, " + i + ", 24)", PLACE, x.runs(0, i, 24));
        Check.due("status()", 2, x.status());
        Check.due("runs(1, 0, 1)", NULL, x.runs(1, 0, 1));
        Check.due("runs(1, -1, 1): NULL is ahead of PLACE", NULL, x.runs(1, -1, 1));
        Check.due("status()", 1, x.status());
        x.row(1, 0, 0);
        Check.due("runs(1, 0, 1) of a row of none", PLACE, x.runs(1, 0, 1));
        Check.due("count(6)", 25, x.count(6));
    }

    private static void runsItems() {
        Check.by("runs: then BAD: an ITEM that is no BEAST");
        FoldGates x = one("post");
        for (int item : new int[] {8, -1, LEAST, MOST}) {
            Check.fill(x, 0, 7, 0, item, 0);
            Check.due("the last of 3 is " + item, BAD, x.runs(0, 0, 3));
            Check.due("the first of 2 is " + item, BAD, x.runs(0, 2, 2));
            Check.due("it stands there alone", BAD, x.runs(0, 2, 1));
            Check.due("PLACE is ahead of it", PLACE, x.runs(0, 2, 3));
            Check.due("status()", 2, x.status());
            Check.due("count(6)", 0, x.count(6) + x.count(4));
        }
        Check.due("runs(0, 0, 2) ahead of it", 0, x.runs(0, 0, 2));
        Check.due("runs(0, 3, 1) behind it", 0, x.runs(0, 3, 1));
        Check.due("pen(0, 1)", 99 + 1 + 1, x.pen(0, 1));
        x.row(1, 0, 1);
        x.set(1, 0, 256 + 7);
        Check.due("a byte of 263 is BEAST 7", 0, x.runs(1, 0, 1));
        Check.due("pen(0, 1)", 99 + 101, x.pen(0, 1));
    }

    private static void runsInOrder() {
        Check.by("runs: one behind the other, an ACT each: the PEN of the last one");
        FoldGates x = Check.told("fold 3;hurdle swing 0 1 0;hurdle swing 10 2 0;beast ewe 1;beast lamb 1;beast ram 1;");
        Check.fill(x, 0, 0, 0, 0, 0, 2);
        // ewe: 0, 2, 1, 2, then all stand LEFT; a ram goes RIGHT, into 2
        Check.due("runs(0, 0, 1)", 0, x.runs(0, 0, 1));
        x.undo();
        Check.due("runs(0, 0, 2)", 2, x.runs(0, 0, 2));
        Check.due("ACTS", 2, x.count(4));
        Check.due("runs(0, 2, 1)", 1, x.runs(0, 2, 1));
        Check.due("runs(0, 3, 2)", 2, x.runs(0, 3, 2));
        Check.due("ACTS", 5, x.count(4));
        Check.due("they stand", 2, x.count(5));
    }

    private static FoldGates withInPens(int all) {
        FoldGates x = Check.told("fold 1;hurdle post 0 0 0;beast ewe 99;");
        x.row(0, 0, 24);
        for (int k = 0; k < all / 24; k++) x.runs(0, 0, 24);
        if (all % 24 > 0) x.runs(0, 0, all % 24);
        return x;
    }

    private static void fullAtTheLast() {
        Check.by("run: FULL: 9999 are in PENS; runs: FULL: more than 9999 would be in PENS");
        FoldGates x = withInPens(9998);
        Check.due("count(6)", 9998, x.count(6));
        Check.due("runs(0, 0, 2) beyond 9999", FULL, x.runs(0, 0, 2));
        Check.due("run(0) up to 9999", 0, x.run(0));
        Check.due("run(0) beyond 9999", FULL, x.run(0));
        Check.due("runs(0, 0, 1) beyond 9999", FULL, x.runs(0, 0, 1));
        Check.due("count(6)", 9999, x.count(6));
        Check.due("pen(0, 0)", 9999, x.pen(0, 0));
        Check.due("pen(0, 1)", 9999 * 99, x.pen(0, 1));
        Check.due("PUSHED", 9999, x.hurdle(0, 5));
        Check.due("ACTS", 24, x.count(4));
        x.undo();
        Check.due("runs(0, 0, 1) up to 9999", 0, x.runs(0, 0, 1));
        x.undo();
        x.undo();
        Check.due("runs(0, 0, 3) beyond", FULL, x.runs(0, 0, 3));
        Check.due("runs(0, 0, 2) up to 9999", 0, x.runs(0, 0, 2));
        x.image(0);
        Check.due("dawn(0)", 0, x.dawn(0));
        Check.due("run(0) behind DAWN", 0, x.run(0));
        x.restore(0);
        Check.due("run(0) as the IMAGE kept it", FULL, x.run(0));
    }

    private static void fullInOrder() {
        Check.by("run: BAD; FULL. runs: NULL; PLACE; BAD; FULL");
        FoldGates x = withInPens(9999);
        Check.due("run(1)", BAD, x.run(1));
        Check.due("run(-1)", BAD, x.run(-1));
        Check.due("runs(0, 0, 25)", BAD, x.runs(0, 0, 25));
        Check.due("runs(1, 0, 1)", NULL, x.runs(1, 0, 1));
        Check.due("runs(0, 24, 1)", PLACE, x.runs(0, 24, 1));
        x.set(0, 23, 1);
        Check.due("runs(0, 23, 1)", BAD, x.runs(0, 23, 1));
        x.set(0, 24, 1);
        Check.due("runs(0, 0, 1)", FULL, x.runs(0, 0, 1));
        Check.due("status() stays", 2, x.status());
        Check.due("what is foretold is not FULL: ahead(0, 0, 0)", 0, x.ahead(0, 0, 0));
        Check.due("theft(0, 0, 0, 23)", 0, x.theft(0, 0, 0, 23));
        Check.due("ask(0, 1)", 0, x.ask(0, 1));
    }

    private static void dawnBits() {
        Check.by("dawn: how they stood. BAD: no bits of HURDLES");
        for (int hurdles = 1; hurdles <= 5; hurdles++) {
            FoldGates x = many(hurdles);
            int all = (1 << hurdles) - 1;
            Check.due("dawn(0)", 0, x.dawn(0));
            Check.due("dawn(all)", 0, x.dawn(all));
            for (int h = 0; h < hurdles; h++) Check.due("hurdle(" + h + ", 4)", 1, x.hurdle(h, 4));
            for (int stands : new int[] {all + 1, -1, LEAST, MOST, 1 << 30, 32}) {
                Check.due("dawn(" + stands + ")", BAD, x.dawn(stands));
            }
            Check.due("ACTS", 2, x.count(4));
            Check.due("they stand", all, x.count(5));
            Check.due("dawn(1)", all, x.dawn(1));
            Check.due("dawn(0)", 1, x.dawn(0));
        }
    }

    private static void dawnLeavesNothing() {
        Check.by("DAWN: posts, too, none was PUSHED, PENS are empty");
        FoldGates x = Check.told(Check.ALL_SORTS);
        x.row(0, 0, 24);
        x.runs(0, 0, 24);
        x.dawn(15);
        for (int h = 0; h < 4; h++) {
            Check.due("hurdle(" + h + ", 4)", 1, x.hurdle(h, 4));
            Check.due("hurdle(" + h + ", 5)", 0, x.hurdle(h, 5));
            Check.due("pen(" + h + ", 0)", 0, x.pen(h, 0));
            Check.due("pen(" + h + ", 1)", 0, x.pen(h, 1));
        }
        Check.due("count(6)", 0, x.count(6));
    }

    private static void undoOfNone() {
        Check.by("undo: STATE: none");
        Check.due("without a FOLD", STATE, new FoldGates().undo());
        FoldGates x = one("swing");
        Check.due("behind fold()", STATE, x.undo());
        x.run(0);
        Check.due("of one", 0, x.undo());
        Check.due("of none", STATE, x.undo());
        x.run(8);
        x.dawn(2);
        x.runs(0, 0, 1);
        Check.due("behind what is refused", STATE, x.undo());
        Check.due("they stand", 0, x.count(5));
    }

    private static void undoUpToTwentyFour() {
        Check.by("ACTS (24 at most are kept, of more the oldest is forgotten)");
        for (int acts : new int[] {1, 23, 24, 25, 26, 47, 48, 49, 73}) {
            FoldGates x = one("swing");
            for (int k = 0; k < acts; k++) x.run(0);
            int kept = Math.min(24, acts);
            Check.due("count(4) behind " + acts, kept, x.count(4));
            for (int k = kept - 1; k >= 0; k--) {
                Check.due("undo() of " + acts, k, x.undo());
                Check.due("in PENS", acts - kept + k, x.count(6));
                Check.due("PUSHED", acts - kept + k, x.hurdle(0, 5));
                Check.due("they stand", (acts - kept + k) % 2, x.count(5));
            }
            Check.due("undo() of what is forgotten", STATE, x.undo());
        }
    }

    private static void undoOfARowOfRuns() {
        Check.by("runs: an ACT each");
        FoldGates x = one("swing");
        x.row(0, 0, 24);
        x.run(1);
        Check.due("runs(0, 0, 23)", 1, x.runs(0, 0, 23));
        Check.due("count(4)", 24, x.count(4));
        x.runs(0, 0, 24);
        Check.due("count(4)", 24, x.count(4));
        for (int k = 0; k < 24; k++) x.undo();
        Check.due("all 24 are undone", 24, x.count(6));
        Check.due("undo()", STATE, x.undo());
        x.run(0);
        Check.due("one more", 1, x.count(4));
        Check.due("undo()", 0, x.undo());
    }

    private static void undoOfDawns() {
        Check.by("DAWN is an ACT that can be undone");
        FoldGates x = many(5);
        for (int k = 1; k <= 25; k++) x.dawn(k);
        Check.due("count(4)", 24, x.count(4));
        for (int k = 24; k >= 1; k--) {
            Check.due("undo()", k - 1, x.undo());
            Check.due("they stand", k, x.count(5));
        }
        Check.due("undo()", STATE, x.undo());
        Check.due("the oldest stays", 1, x.count(5));
    }

    private static void hurdlesAsked() {
        Check.by("hurdle: of a HURDLE, 0 to 5. BAD");
        for (int hurdles = 1; hurdles <= 5; hurdles++) {
            FoldGates x = many(hurdles);
            Check.dueHurdle(x, 0, 0, 1, 0, 0, 0, 0, BAD);
            Check.dueHurdle(x, hurdles - 1, 0, 1, 0, 0, 0, 0, BAD);
            for (int h : new int[] {hurdles, -1, LEAST, MOST}) {
                for (int what = 0; what <= 5; what++) Check.due("hurdle(" + h + ", " + what + ")", BAD, x.hurdle(h, what));
            }
            for (int what : new int[] {-1, 6, LEAST, MOST}) Check.due("hurdle(0, " + what + ")", BAD, x.hurdle(0, what));
        }
    }

    private static void beastsAsked() {
        Check.by("heavy, kind: of a BEAST. BAD");
        FoldGates x = one("post");
        int[] heavies = {1, 2, 3, 4, 5, 6, 7, 99};
        int[] kinds = {1, 2, 3, 4, 5, 1, 1, 1};
        for (int beast = 0; beast < 8; beast++) {
            Check.due("heavy(" + beast + ")", heavies[beast], x.heavy(beast));
            Check.due("kind(" + beast + ")", kinds[beast], x.kind(beast));
        }
        for (int beast : new int[] {-1, 8, LEAST, MOST}) {
            Check.due("heavy(" + beast + ")", BAD, x.heavy(beast));
            Check.due("kind(" + beast + ")", BAD, x.kind(beast));
        }
    }

    private static void pensAsked() {
        Check.by("pen: how many are in it, how HEAVY they are in all. BAD");
        for (int pens = 1; pens <= 6; pens++) {
            FoldGates x = Check.told("fold " + pens + ";hurdle post " + (pens - 1) + " 0 0;" + EIGHT);
            Check.due("pen of the last", 0, x.pen(pens - 1, 0));
            x.run(7);
            x.run(0);
            Check.due("how many", 2, x.pen(pens - 1, 0));
            Check.due("how heavy", 100, x.pen(pens - 1, 1));
            if (pens > 1) Check.due("the first has none", 0, x.pen(0, 0) + x.pen(0, 1));
            for (int pen : new int[] {pens, -1, LEAST, MOST}) {
                Check.due("pen(" + pen + ", 0)", BAD, x.pen(pen, 0));
                Check.due("pen(" + pen + ", 1)", BAD, x.pen(pen, 1));
            }
            for (int what : new int[] {-1, 2, LEAST, MOST}) Check.due("pen(0, " + what + ")", BAD, x.pen(0, what));
        }
    }

    private static void imagesRefused() {
        Check.by("image: BAD; STATE: no FOLD. restore: BAD; STATE: none was kept");
        FoldGates x = new FoldGates();
        for (int k : new int[] {-1, 2, LEAST, MOST}) {
            Check.due("image(" + k + ") without a FOLD: BAD is ahead of STATE", BAD, x.image(k));
            Check.due("restore(" + k + ") of none: BAD is ahead of STATE", BAD, x.restore(k));
        }
        for (int k = 0; k <= 1; k++) {
            Check.due("image(" + k + ")", STATE, x.image(k));
            Check.due("restore(" + k + ")", STATE, x.restore(k));
        }
        Check.read(x, Check.ALL_SORTS);
        for (int k : new int[] {-1, 2, LEAST, MOST}) {
            Check.due("image(" + k + ")", BAD, x.image(k));
            Check.due("restore(" + k + ")", BAD, x.restore(k));
        }
        Check.due("restore(0): an image that was refused is not kept", STATE, x.restore(0));
        Check.due("image(0)", 1, x.image(0));
        Check.due("restore(1)", STATE, x.restore(1));
        Check.due("restore(0)", 1, x.restore(0));
    }

    private static void imagesApart() {
        Check.by("An IMAGE (0, 1) is kept");
        FoldGates x = one("swing");
        x.image(0);
        x.run(0);
        x.image(1);
        x.run(0);
        x.restore(0);
        Check.due("image 0", 0, x.count(6));
        x.restore(1);
        Check.due("image 1", 1, x.count(6));
        Check.due("it stands", 1, x.count(5));
        Check.due("PUSHED", 1, x.hurdle(0, 5));
        x.run(0);
        x.image(0);
        x.restore(1);
        Check.due("image 1 is as it was", 1, x.count(6));
        x.restore(0);
        Check.due("image 0, kept anew", 2, x.count(6));
    }

    private static void imagesOutliveFolds() {
        Check.by("restore: the FOLD is as an IMAGE kept it");
        FoldGates x = Check.told(Check.ALL_SORTS);
        x.run(0);
        x.image(1);
        Check.read(x, "fold 6;hurdle swing 5 4 0;beast ram 1;");
        x.image(0);
        x.restore(1);
        Check.due("HURDLES", 4, x.count(1));
        Check.due("BEASTS", 5, x.count(2));
        Check.due("PENS", 4, x.count(3));
        Check.due("pen(4, 0)", BAD, x.pen(4, 0));
        Check.due("heavy(4)", 40, x.heavy(4));
        Check.due("in PENS", 1, x.count(6));
        x.restore(0);
        Check.due("HURDLES", 1, x.count(1));
        Check.due("run(0)", 4, x.run(0));
        Check.due("run(1)", BAD, x.run(1));
        Check.due("tape and ROWS stay", 0, x.count(7) + x.count(0));
    }

    private static void restoredHasNoActs() {
        Check.by("restore: no ACT can be undone then");
        FoldGates x = one("swing");
        x.run(0);
        x.image(0);
        Check.due("image(0) leaves ACTS", 1, x.count(4));
        x.run(0);
        x.restore(0);
        Check.due("count(4)", 0, x.count(4));
        Check.due("undo()", STATE, x.undo());
        Check.due("in PENS", 1, x.count(6));
        x.run(0);
        Check.due("count(4)", 1, x.count(4));
        Check.due("undo()", 0, x.undo());
        Check.due("in PENS", 1, x.count(6));
    }

    private static void counts() {
        Check.by("count: 0 to 7. BAD");
        FoldGates x = new FoldGates();
        for (int what = 0; what <= 7; what++) Check.due("count(" + what + ")", 0, x.count(what));
        for (int what : new int[] {-1, 8, LEAST, MOST}) Check.due("count(" + what + ")", BAD, x.count(what));
        Check.read(x, "fold 6;" + "hurdle swing 0 5 0;".repeat(5) + EIGHT);
        for (int row = 0; row < 8; row++) x.row(row, 0, row);
        for (int k = 0; k < 25; k++) x.run(4);
        x.dawn(31);
        x.run(0);
        x.dawn(31);
        x.run(2);
        x.feed(0, 5);
        int[] want = {8, 5, 8, 6, 24, 31, 1, 5};
        for (int what = 0; what <= 7; what++) Check.due("count(" + what + ")", want[what], x.count(what));
    }
}
