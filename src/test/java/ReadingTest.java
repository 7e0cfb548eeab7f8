/** Promises 6 to 8, and what fold() tells of hurdles and beasts (13, 14, 26, 30). */
public final class ReadingTest {
    private static final String H = "hurdle post 0 0 0;";
    private static final String B = "beast ewe 1;";

    public static void main(String[] args) {
        feeds();
        texts();
        faultsOfLaws();
        faultsOfHurdles();
        faultsOfBeasts();
        faultsOfTokens();
        roomRunsOut();
        whatAFaultLeaves();
        newFoldStandsInPlace();
        Check.end();
    }

    private static void feeds() {
        FoldGates x = new FoldGates();
        Check.due("feed(0, 0)", FoldGates.BAD, x.feed(0, 0));
        Check.due("feed(0, 9)", FoldGates.BAD, x.feed(0, 9));
        Check.due("feed(0, -1)", FoldGates.BAD, x.feed(0, -1));
        Check.due("feed of 1", 1, x.feed(0x6600L + 'f', 1));
        Check.due("feed of 3, the highest first", 4, x.feed(0x616f6c64L, 3));
        Check.due("feed of 5", 9, x.feed(0x2031L << 24 | 0x3b2020L, 5));
        for (int bytes = 17; bytes <= 393; bytes += 8) Check.due("feed of 8", bytes, x.feed(0x2020202020202020L, 8));
        Check.due("feed beyond 400", FoldGates.FULL, x.feed(0, 8));
        Check.due("none came", 393, x.count(7));
        Check.due("feed of 9 is BAD ahead of FULL", FoldGates.BAD, x.feed(0, 9));
        Check.due("feed up to 400", 400, x.feed(0x20202020202020L, 7));
        Check.due("feed of one more", FoldGates.FULL, x.feed(0, 1));
        Check.due("fold(): the end is the fault", Check.FAULTS - 400, x.fold());
        Check.due("the tape is empty then", 0, x.count(7));
    }

    private static void texts() {
        dueFold("fold 1;" + H, 1);
        dueFold("fold1;hurdle post0 0 0;", 1);
        dueFold("  fold\n6 ; hurdle\nswing 5 0 0 ;\nbeast marked 99 ;\n ", 1);
        dueFold("fold 002;hurdle stiff 001 00 000;hurdle swing 010 1 001;", 2);
        dueFold("fold 1;" + H + H + H + H + H + B + B + B + B + B + B + B + B, 5);
        FoldGates x = Check.told("fold 6;hurdle stiff 5 4 0;hurdle post 10 3 1;hurdle swing 11 10 2;beast lamb 99;beast blind 1;");
        Check.dueHurdle(x, 0, 5, 4, 0, 1, 0, 0);
        Check.dueHurdle(x, 1, 10, 3, 1, 2, 0, 0);
        Check.dueHurdle(x, 2, 11, 10, 2, 0, 0, 0);
        Check.due("hurdle(3, 0)", FoldGates.BAD, x.hurdle(3, 0));
        Check.due("hurdle(-1, 0)", FoldGates.BAD, x.hurdle(-1, 0));
        Check.due("hurdle(0, 6)", FoldGates.BAD, x.hurdle(0, 6));
        Check.due("hurdle(0, -1)", FoldGates.BAD, x.hurdle(0, -1));
        Check.due("heavy(0)", 99, x.heavy(0));
        Check.due("heavy(1)", 1, x.heavy(1));
        Check.due("heavy(2)", FoldGates.BAD, x.heavy(2));
        Check.due("heavy(-1)", FoldGates.BAD, x.heavy(-1));
        Check.due("count(1)", 3, x.count(1));
        Check.due("count(2)", 2, x.count(2));
        Check.due("count(3)", 6, x.count(3));
        Check.due("count(-1)", FoldGates.BAD, x.count(-1));
        Check.due("count(8)", FoldGates.BAD, x.count(8));
    }

    private static void faultsOfLaws() {
        dueFault("", 0, 1);
        dueFault("   ", 3, 1);
        dueFault("hold 1;", 0, 1);
        dueFault("folds 1;", 0, 1);
        dueFault("fol", 0, 1);
        dueFault(" 4", 1, 1);
        dueFault("fold", 4, 1);
        dueFault("fold ;", 5, 1);
        dueFault("fold 0;", 5, 2);
        dueFault("fold 7;", 5, 2);
        dueFault("fold 6", 6, 1);
        dueFault("fold 6 6", 7, 1);
        dueFault("fold 6;", 7, 1);
        dueFault("fold 6; \n", 9, 1);
        dueFault("fold 6;;", 7, 1);
        dueFault("fold 6;" + B, 7, 1);
        dueFault("fold 6;fold 6;", 7, 1);
    }

    private static void faultsOfHurdles() {
        dueFault("fold 2;hurdle 0 0 0;", 14, 1);
        dueFault("fold 2;hurdle ewe 0 0 0;", 14, 1);
        dueFault("fold 2;hurdle posts 0 0 0;", 14, 1);
        dueFault("fold 2;hurdle post a 0 0;", 19, 1);
        dueFault("fold 2;hurdle post 2 0 0;", 19, 2);
        dueFault("fold 2;hurdle post 10 0 0;", 19, 2);
        dueFault("fold 2;hurdle post 0 2 0;", 21, 2);
        dueFault("fold 2;hurdle post 0 9 0;", 21, 2);
        dueFault("fold 2;hurdle post 0 1 1;", 23, 2);
        dueFault("fold 2;hurdle post 0 1;", 22, 1);
        dueFault("fold 2;hurdle post 0 1 0", 24, 1);
        dueFault("fold 2;hurdle post 0 1 0 0;", 25, 1);
        dueFault("fold 1;" + H + "hurdle post 0 11 0;", 39, 2);
        dueFault("fold 1;" + H + "hurdle post 10 10 2;", 43, 2);
        dueFold("fold 1;" + H + "hurdle post 10 10 1;", 2);
        dueFault("fold 1;" + H + "hurdles", 25, 1);
    }

    private static void faultsOfBeasts() {
        String law = "fold 1;" + H;
        dueFault(law + "beast;", 30, 1);
        dueFault(law + "beast swing 1;", 31, 1);
        dueFault(law + "beast ewe;", 34, 1);
        dueFault(law + "beast ewe 0;", 35, 2);
        dueFault(law + "beast ewe 100;", 35, 2);
        dueFault(law + "beast ewe 99", 37, 1);
        dueFault(law + B + H, 37, 1);
        dueFault(law + B + "ewe", 37, 1);
        dueFault(law + B + ";", 37, 1);
    }

    private static void faultsOfTokens() {
        dueFault("Fold 1;" + H, 0, 1);
        dueFault("fold\t1;" + H, 4, 1);
        dueFault("fold\r\n1;" + H, 4, 1);
        dueFault("fold 1234;" + H, 5, 1);
        dueFault("fold 0001;" + H, 5, 1);
        dueFault("fold -1;" + H, 5, 1);
        dueFault("fold 1:" + H, 6, 1);
        dueFault("fold 1;" + H + (char) 0, 25, 1);
        dueFault("fold 1;" + H + (char) 233, 25, 1);
        dueFault("fold 1;" + H + (char) 160, 25, 1);
        dueFault("fol" + (char) 228 + " 1;", 0, 1);
        dueFault("fold" + (char) 228 + " 1;", 4, 1);
        dueFault("fold 1;hurdle post 0000 0 0;", 19, 1);
    }

    private static void roomRunsOut() {
        String hurdles = "fold 1;" + H + H + H + H + H;
        dueFault(hurdles + H, hurdles.length(), 3);
        dueFault(hurdles + " hurdle", hurdles.length() + 1, 3);
        String beasts = "fold 1;" + H + B + B + B + B + B + B + B + B;
        dueFold(beasts, 1);
        dueFault(beasts + B, beasts.length(), 3);
        dueFault(beasts + "beast !", beasts.length(), 3);
        dueFault(beasts + H, beasts.length(), 1);
        dueFault(hurdles + B + H, hurdles.length() + B.length(), 1);
    }

    private static void whatAFaultLeaves() {
        FoldGates x = Check.told(Check.ALL_SORTS);
        x.run(0);
        Check.due("fold of a fault", Check.FAULTS - 5, Check.read(x, "fold 9;"));
        Check.due("fault()", 2, x.fault());
        Check.due("hurdles stay", 4, x.count(1));
        Check.due("they stand as they did", 11, x.count(5));
        Check.due("who is in pens stays", 1, x.count(6));
        Check.due("the tape is empty", 0, x.count(7));
        Check.due("what can be undone stays", 0, x.undo());
        Check.due("fold without a fault", 1, Check.read(x, "fold 1;" + H));
        Check.due("fault() is the latest yet", 2, x.fault());
        Check.read(x, "fold");
        Check.due("fault() of the later one", 1, x.fault());
    }

    private static void newFoldStandsInPlace() {
        FoldGates x = Check.told(Check.ALL_SORTS);
        x.run(0);
        x.run(0);
        Check.due("the same read again", 4, Check.read(x, Check.ALL_SORTS));
        Check.due("all stand LEFT", 0, x.count(5));
        Check.due("no ACT can be undone", 0, x.count(4));
        Check.due("undo()", FoldGates.STATE, x.undo());
        Check.due("PENS are empty", 0, x.count(6));
        Check.due("none is heavy in them", 0, x.pen(0, 1));
        Check.due("none was PUSHED", 0, x.hurdle(3, 5));
        Check.read(x, "fold 1;" + H);
        Check.due("beasts of the one before are gone", 0, x.count(2));
        Check.due("run(0)", FoldGates.BAD, x.run(0));
        Check.due("pen(1, 0)", FoldGates.BAD, x.pen(1, 0));
    }

    private static void dueFold(String text, int want) {
        FoldGates x = new FoldGates();
        Check.due("fold of " + text, want, Check.read(x, text));
        Check.due("fault() of " + text, 0, x.fault());
    }

    private static void dueFault(String text, int place, int number) {
        FoldGates x = new FoldGates();
        Check.due("fold of " + text, Check.FAULTS - place, Check.read(x, text));
        Check.due("fault() of " + text, number, x.fault());
        Check.due("hurdles behind " + text, 0, x.count(1));
        Check.due("tape behind " + text, 0, x.count(7));
    }
}
