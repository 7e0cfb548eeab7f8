/** Promises 6 to 8 and the texts of part 1: each sentence that names an edge, on both sides of it. */
public final class EdgesOfTextsTest {
    private static final int BAD = FoldGates.BAD, FULL = FoldGates.FULL;
    private static final int CANNOT_STAND = 1, NOT_AS_TOLD = 2, NO_ROOM = 3;
    private static final String H = "hurdle post 0 0 0;";
    private static final String B = "beast ewe 1;";
    private static final String LAW = "fold 1;" + H;

    public static void main(String[] args) {
        feedLengths();
        feedHighestFirst();
        tapeIsFull();
        tapeIsFullTwice();
        tapeOfFourHundred();
        emptyTape();
        letters();
        wordsOfTheGrammar();
        figures();
        threeFigures();
        signs();
        blanks();
        theEnd();
        pensOfALaw();
        waysToPens();
        waysToHurdles();
        ties();
        heavies();
        atLeastOneHurdle();
        fiveHurdles();
        eightBeasts();
        theLeastOfOneToken();
        theFirstToken();
        latestFault();
        aFaultLeavesAll();
        aFoldInPlaceOfTheOneBefore();
        Check.end();
    }

    private static void dueFold(String text, int want) {
        FoldGates x = new FoldGates();
        Check.due("fold of " + text, want, Check.read(x, text));
        Check.due("fault() of " + text, 0, x.fault());
        Check.due("count(1) of " + text, want, x.count(1));
        Check.due("count(7) of " + text, 0, x.count(7));
    }

    private static void dueFault(String text, int place, int number) {
        FoldGates x = new FoldGates();
        Check.due("fold of " + text, Check.FAULTS - place, Check.read(x, text));
        Check.due("fault() of " + text, number, x.fault());
        Check.due("count(1) of " + text, 0, x.count(1));
        Check.due("count(7) of " + text, 0, x.count(7));
    }

    private static void feedLengths() {
        Check.by("feed: n bytes (1 to 8). BAD: n");
        FoldGates x = new FoldGates();
        Check.due("feed(0, 1)", 1, x.feed(0, 1));
        Check.due("feed(0, 8)", 9, x.feed(0, 8));
        for (int n : new int[] {0, 9, -1, Integer.MIN_VALUE, Integer.MAX_VALUE}) {
            Check.due("feed(0, " + n + ")", BAD, x.feed(0, n));
        }
        Check.due("count(7)", 9, x.count(7));
    }

    private static void feedHighestFirst() {
        Check.by("feed: the lowest n bytes of w, the highest of them first");
        FoldGates x = new FoldGates();
        x.feed(0xffffffffffffff66L, 1);
        x.feed(0xffffffffffff6f6cL, 2);
        x.feed(0x8000000000642031L, 3);
        x.feed(0x3b687572646c6520L, 8);
        x.feed(0x0000706f73742030L, 6);
        x.feed(0x00000020302030L, 4);
        x.feed(0x3bL, 1);
        Check.due("fold()", 1, x.fold());
        Check.due("its SORT", 2, x.hurdle(0, 3));
        Check.feed(x, "fold 1;");
        x.feed(0x8000000000000000L, 8);
        Check.due("fold() of a byte 128", Check.FAULTS - 7, x.fold());
        Check.feed(x, "fold 1;");
        x.feed(-1L, 8);
        Check.due("fold() of bytes 255", Check.FAULTS - 7, x.fold());
    }

    private static void tapeIsFull() {
        Check.by("THE TAPE has at most 400 bytes. feed: FULL: none comes");
        for (int n = 1; n <= 8; n++) {
            FoldGates x = new FoldGates();
            Check.feed(x, Check.blanks(400 - n));
            if (n < 8) Check.due("beyond 400 by one", FULL, x.feed(0, n + 1));
            Check.due("none came", 400 - n, x.count(7));
            Check.due("feed(0, 9): BAD is ahead of FULL", BAD, x.feed(0, 9));
            Check.due("up to 400", 400, x.feed(0x2020202020202020L, n));
            for (int m = 1; m <= 8; m++) Check.due("feed(0, " + m + ") at 400", FULL, x.feed(0, m));
            Check.due("feed(0, 0): BAD is ahead of FULL", BAD, x.feed(0, 0));
            Check.due("count(7)", 400, x.count(7));
        }
    }

    private static void tapeIsFullTwice() {
        Check.by("fold: the tape, empty then");
        FoldGates x = new FoldGates();
        for (int k = 0; k < 2; k++) {
            Check.feed(x, LAW + Check.blanks(400 - LAW.length()));
            Check.due("count(7)", 400, x.count(7));
            Check.due("feed(0, 1)", FULL, x.feed(0, 1));
            Check.due("fold()", 1, x.fold());
            Check.due("count(7)", 0, x.count(7));
        }
        Check.due("fold() of none: what was read is gone", Check.FAULTS, x.fold());
    }

    private static void tapeOfFourHundred() {
        Check.by("fold of 400 bytes");
        String law = Check.blanks(400 - LAW.length()) + LAW;
        dueFold(law, 1);
        dueFault(law.substring(0, 399), 399, CANNOT_STAND);
        dueFault(law.substring(1) + "!", 399, CANNOT_STAND);
    }

    private static void emptyTape() {
        Check.by("fold of no bytes");
        dueFault("", 0, CANNOT_STAND);
    }

    /** a and z are letters; the bytes beside them, and capitals, are none. */
    private static void letters() {
        Check.by("NAMES (letters a to z)");
        dueFault(LAW + "a", 25, CANNOT_STAND);
        for (char c : new char[] {96, 123, 'A', 'Z', 64, 91, '_', 0, 127, 128, 255, 228}) {
            dueFault("fold" + c + "1;" + H, 4, CANNOT_STAND);
            dueFault(c + "fold 1;" + H, 0, CANNOT_STAND);
            dueFault("fo" + c + "d 1;" + H, 0, CANNOT_STAND);
            dueFault(LAW + c, 25, CANNOT_STAND);
        }
        dueFault("folda1;" + H, 0, CANNOT_STAND);
        dueFault("foldz1;" + H, 0, CANNOT_STAND);
        dueFault("fold1;hurdlepost 0 0 0;", 6, CANNOT_STAND);
    }

    private static void wordsOfTheGrammar() {
        Check.by("a NAME that is a word of the grammar, and one letter less or more");
        String[] hurdles = {"swing", "stiff", "post"};
        for (int sort = 0; sort < 3; sort++) {
            String word = hurdles[sort];
            FoldGates x = Check.told("fold 1;hurdle " + word + " 0 0 0;");
            Check.due("SORT of " + word, sort, x.hurdle(0, 3));
            dueFault("fold 1;hurdle " + word + "s 0 0 0;", 14, CANNOT_STAND);
            dueFault("fold 1;hurdle " + word.substring(1) + " 0 0 0;", 14, CANNOT_STAND);
            dueFault("fold 1;hurdle " + word.substring(0, word.length() - 1) + " 0 0 0;", 14, CANNOT_STAND);
        }
        String[] beasts = {"ewe", "ram", "lamb", "blind", "marked"};
        for (int kind = 0; kind < 5; kind++) {
            String word = beasts[kind];
            FoldGates x = Check.told(LAW + "beast " + word + " 1;");
            Check.due("KIND of " + word, kind + 1, x.kind(0));
            dueFault(LAW + "beast " + word + "s 1;", 31, CANNOT_STAND);
            dueFault(LAW + "beast " + word.substring(1) + " 1;", 31, CANNOT_STAND);
            dueFault(LAW + "beast " + word.substring(0, word.length() - 1) + " 1;", 31, CANNOT_STAND);
        }
        for (String word : new String[] {"fol", "folds", "old", "hurdle", "beast", "x"}) dueFault(word + " 1;" + H, 0, CANNOT_STAND);
        for (String word : new String[] {"hurdl", "hurdles", "urdle", "fold", "beast", "swing"}) {
            dueFault("fold 1;" + word + " post 0 0 0;", 7, CANNOT_STAND);
        }
        for (String word : new String[] {"beas", "beasts", "east", "fold", "ewe"}) dueFault(LAW + word + " ewe 1;", 25, CANNOT_STAND);
    }

    private static void figures() {
        Check.by("NUMBERS (figures)");
        for (char c = '1'; c <= '6'; c++) dueFold("fold " + c + ";" + H, 1);
        dueFault("fold 0;" + H, 5, NOT_AS_TOLD);
        dueFault("fold 9;" + H, 5, NOT_AS_TOLD);
        for (char c : new char[] {'/', ':', '+', '-', '.', 178, 185}) dueFault("fold " + c + "1;" + H, 5, CANNOT_STAND);
        FoldGates x = Check.told(LAW + "beast ewe 09;beast ewe 90;beast ewe 8;");
        Check.due("09", 9, x.heavy(0));
        Check.due("90", 90, x.heavy(1));
        Check.due("8", 8, x.heavy(2));
    }

    private static void threeFigures() {
        Check.by("NUMBERS (figures, 3 at most)");
        dueFold("fold 001;" + H, 1);
        dueFault("fold 0001;" + H, 5, CANNOT_STAND);
        dueFault("fold 999;" + H, 5, NOT_AS_TOLD);
        dueFault("fold 1000;" + H, 5, CANNOT_STAND);
        dueFault("fold 00000000000000000001;" + H, 5, CANNOT_STAND);
        dueFault("fold 4294967297;" + H, 5, CANNOT_STAND);
        dueFold("fold 1;hurdle post 000 000 000;", 1);
        dueFault("fold 1;hurdle post 000 0000 000;", 23, CANNOT_STAND);
        dueFault("fold 1;hurdle post 000 000 0000;", 27, CANNOT_STAND);
        dueFold(LAW + "beast ewe 099;", 1);
        dueFault(LAW + "beast ewe 0099;", 35, CANNOT_STAND);
    }

    private static void signs() {
        Check.by("SIGNS ;");
        for (char c : new char[] {':', '<', ',', '{', '}', '|', '\''}) {
            dueFault("fold 1" + c + H, 6, CANNOT_STAND);
            dueFault("fold 1;hurdle post 0 0 0" + c, 24, CANNOT_STAND);
            dueFault(LAW + "beast ewe 1" + c, 36, CANNOT_STAND);
        }
        dueFault("fold 1;;" + H, 7, CANNOT_STAND);
        dueFault(LAW + ";", 25, CANNOT_STAND);
        dueFault(LAW + B + ";", 37, CANNOT_STAND);
    }

    private static void blanks() {
        Check.by("bytes 32 and 10 between");
        dueFold(" \n fold \n 1 \n ; \n hurdle \n post \n 0 \n 0 \n 0 \n ; \n beast \n ewe \n 1 \n ; \n ", 1);
        dueFold("fold1;hurdle post0 0 0;beast ewe1;", 1);
        for (char c : new char[] {0, 9, 11, 12, 13, 31, 33, 160}) {
            dueFault("fold" + c + "1;" + H, 4, CANNOT_STAND);
            dueFault(LAW + c, 25, CANNOT_STAND);
            dueFault(c + LAW, 0, CANNOT_STAND);
        }
        dueFault("fo ld 1;" + H, 0, CANNOT_STAND);
        dueFault("fold 0 1;" + H, 5, NOT_AS_TOLD);
    }

    /** Each text broken off: behind a whole token the end is the fault, with blanks as well. */
    private static void theEnd() {
        Check.by("the end: how many bytes there are");
        String[] broken = {"", "fold", "fold 1", "fold 1;", "fold 1;hurdle", "fold 1;hurdle post", "fold 1;hurdle post 0",
            "fold 1;hurdle post 0 0", "fold 1;hurdle post 0 0 0", LAW + "beast", LAW + "beast ewe", LAW + "beast ewe 1"};
        for (String text : broken) {
            dueFault(text, text.length(), CANNOT_STAND);
            dueFault(text + " ", text.length() + 1, CANNOT_STAND);
            dueFault(text + " \n\n ", text.length() + 4, CANNOT_STAND);
            String long400 = text + Check.blanks(400 - text.length());
            dueFault(long400, 400, CANNOT_STAND);
        }
        dueFold(LAW, 1);
        dueFold(LAW + B, 1);
    }

    private static void pensOfALaw() {
        Check.by("law: 'fold' PENS ';' (1 to 6)");
        for (int pens = 1; pens <= 6; pens++) {
            FoldGates x = Check.told("fold " + pens + ";" + H);
            Check.due("count(3)", pens, x.count(3));
            Check.due("pen of the last", 0, x.pen(pens - 1, 0));
            Check.due("pen behind the last", BAD, x.pen(pens, 0));
        }
        for (int pens : new int[] {0, 7, 8, 10, 100, 255, 257, 999}) dueFault("fold " + pens + ";" + H, 5, NOT_AS_TOLD);
    }

    private static void waysToPens() {
        Check.by("LEFT, RIGHT: 0 to PENS less 1, a PEN");
        for (int pens = 1; pens <= 6; pens++) {
            String law = "fold " + pens + ";hurdle post ";
            FoldGates x = Check.told(law + (pens - 1) + " " + (pens - 1) + " 0;");
            Check.dueHurdle(x, 0, pens - 1, pens - 1, 0);
            for (int way = pens; way <= 10; way++) {
                dueFault(law + way + " 0 0;", 19, NOT_AS_TOLD);
                dueFault(law + "0 " + way + " 0;", 21, NOT_AS_TOLD);
            }
            dueFault(law + "100 0 0;", 19, NOT_AS_TOLD);
        }
    }

    private static void waysToHurdles() {
        Check.by("LEFT, RIGHT: 10 and the number of a HURDLE told ahead of it");
        StringBuilder text = new StringBuilder("fold 6;");
        for (int h = 0; h <= 4; h++) {
            int place = text.length() + 12;
            for (int way : new int[] {10 + h, 11 + h, 15, 99, 6, 9}) {
                dueFault(text + "hurdle post " + way + " 0 0;", place, NOT_AS_TOLD);
                dueFault(text + "hurdle post 5 " + way + " 0;", place + 2, NOT_AS_TOLD);
            }
            if (h > 0) {
                dueFold(text + "hurdle post 10 " + (9 + h) + " 0;", h + 1);
                dueFold(text + "hurdle post " + (9 + h) + " 10 0;", h + 1);
            }
            text.append("hurdle post 5 0 0;");
        }
    }

    private static void ties() {
        Check.by("TIE: 0, or 1 and the number of a HURDLE told ahead of it");
        StringBuilder text = new StringBuilder("fold 1;");
        for (int h = 0; h <= 4; h++) {
            int place = text.length() + 16;
            for (int tie = 0; tie <= h; tie++) {
                FoldGates x = Check.told(text + "hurdle post 0 0 " + tie + ";");
                Check.due("hurdle(" + h + ", 2)", tie, x.hurdle(h, 2));
            }
            dueFault(text + "hurdle post 0 0 " + (h + 1) + ";", place, NOT_AS_TOLD);
            dueFault(text + "hurdle post 0 0 " + (10 + h) + ";", place, NOT_AS_TOLD);
            text.append(H);
        }
    }

    private static void heavies() {
        Check.by("beast: HEAVY, 1 to 99");
        FoldGates x = Check.told(LAW + "beast ewe 1;beast ewe 99;beast ewe 001;");
        Check.due("heavy(0)", 1, x.heavy(0));
        Check.due("heavy(1)", 99, x.heavy(1));
        Check.due("heavy(2)", 1, x.heavy(2));
        for (String heavy : new String[] {"0", "00", "000", "100", "101", "199", "999"}) {
            dueFault(LAW + "beast ewe " + heavy + ";", 35, NOT_AS_TOLD);
        }
    }

    private static void atLeastOneHurdle() {
        Check.by("fold: law hurdle { hurdle } { beast }");
        dueFault("fold 1;", 7, CANNOT_STAND);
        dueFault("fold 1;" + B, 7, CANNOT_STAND);
        dueFold(LAW, 1);
        dueFold(LAW + B, 1);
        dueFault(LAW + B + H, 37, CANNOT_STAND);
        dueFault(LAW + LAW, 25, CANNOT_STAND);
        dueFault(LAW + B + LAW, 37, CANNOT_STAND);
        dueFault(H + LAW, 0, CANNOT_STAND);
        FoldGates x = Check.told(LAW);
        Check.due("a FOLD without BEASTS: count(2)", 0, x.count(2));
        Check.due("run(0)", BAD, x.run(0));
        Check.due("dawn(1)", 0, x.dawn(1));
    }

    private static void fiveHurdles() {
        Check.by("HURDLES 0 .. 4, 5 at most; 3 a hurdle more than there is room for (its word)");
        String five = "fold 1;" + H.repeat(5);
        dueFold("fold 1;" + H.repeat(4), 4);
        dueFold(five, 5);
        dueFold(five + B, 5);
        dueFault(five + H, five.length(), NO_ROOM);
        dueFault(five + " \n" + H, five.length() + 2, NO_ROOM);
        dueFault(five + "hurdle", five.length(), NO_ROOM);
        dueFault(five + "hurdle cow !", five.length(), NO_ROOM);
        dueFault(five + "hurdle 1", five.length(), NO_ROOM);
        dueFault(five + "hurdles", five.length(), CANNOT_STAND);
        dueFault(five + B + H, five.length() + B.length(), CANNOT_STAND);
    }

    private static void eightBeasts() {
        Check.by("BEASTS 0 .. 7, 8 at most; 3 a beast more than there is room for (its word)");
        String eight = LAW + B.repeat(8);
        dueFold(LAW + B.repeat(7), 1);
        dueFold(eight, 1);
        dueFault(eight + B, eight.length(), NO_ROOM);
        dueFault(eight + "\n" + B, eight.length() + 1, NO_ROOM);
        dueFault(eight + "beast", eight.length(), NO_ROOM);
        dueFault(eight + "beast !", eight.length(), NO_ROOM);
        dueFault(eight + "beasts", eight.length(), CANNOT_STAND);
        dueFault(eight + H, eight.length(), CANNOT_STAND);
        FoldGates x = Check.told(eight);
        Check.due("count(2)", 8, x.count(2));
        Check.due("heavy(7)", 1, x.heavy(7));
        Check.due("heavy(8)", BAD, x.heavy(8));
    }

    private static void theLeastOfOneToken() {
        Check.by("FAULTS of one TOKEN the least");
        dueFault("fold 1;hurdle post 0 0 0 9;", 25, CANNOT_STAND);
        dueFault("fold 1;hurdle 9 0 0 0;", 14, CANNOT_STAND);
        dueFault("fold 1 7;", 7, CANNOT_STAND);
        dueFault("fold fold;", 5, CANNOT_STAND);
        dueFault("fold 1;hurdle post hurdle 0 0;", 19, CANNOT_STAND);
        dueFault("fold 1;" + H.repeat(5) + "hurdle".repeat(2), 7 + 90, CANNOT_STAND);
        dueFault(LAW + B.repeat(7) + "beast ewe beast", 25 + 84 + 10, CANNOT_STAND);
    }

    private static void theFirstToken() {
        Check.by("FAULTS, the first TOKEN that has one");
        dueFault("fold 7;hurdle cow 9 9 9", 5, NOT_AS_TOLD);
        dueFault("fold 1;hurdle post 9 x 9;", 19, NOT_AS_TOLD);
        dueFault("fold 1;hurdle cow 9 9 9;", 14, CANNOT_STAND);
        dueFault("fold 1;hurdle post 0 9 9;", 21, NOT_AS_TOLD);
        dueFault("fold 1;hurdle post 0 0 1!", 23, NOT_AS_TOLD);
        dueFault(LAW + "beast ewe 100" + H, 35, NOT_AS_TOLD);
        dueFault("fold 7;" + H.repeat(6), 5, NOT_AS_TOLD);
    }

    private static void latestFault() {
        Check.by("fault: the number of the latest FAULT; 0 before one");
        FoldGates x = new FoldGates();
        Check.due("a new object", 0, x.fault());
        Check.read(x, LAW);
        Check.due("behind a FOLD", 0, x.fault());
        Check.read(x, "fold 1;" + H.repeat(6));
        Check.due("behind one too many", 3, x.fault());
        Check.read(x, LAW);
        Check.due("behind a FOLD", 3, x.fault());
        Check.read(x, "fold 0");
        Check.due("behind a NUMBER", 2, x.fault());
        x.fold();
        Check.due("behind the end", 1, x.fault());
        x.feed(0, 9);
        x.run(9);
        x.undo();
        Check.due("behind what is refused", 1, x.fault());
    }

    private static void aFaultLeavesAll() {
        Check.by("fold: -1000100 less the place of a FAULT: all stays");
        FoldGates x = Check.told(Check.ALL_SORTS);
        x.image(1);
        x.run(0);
        x.run(1);
        x.ask(1, 1);
        x.row(0, 0, 3);
        x.set(0, 3, 0);
        int stands = x.count(5);
        Check.due("fold()", Check.FAULTS - 5, Check.read(x, "fold 7;" + H));
        Check.due("HURDLES", 4, x.count(1));
        Check.due("BEASTS", 5, x.count(2));
        Check.due("PENS", 4, x.count(3));
        Check.due("ACTS", 2, x.count(4));
        Check.due("how all stand", stands, x.count(5));
        Check.due("in PENS", 2, x.count(6));
        Check.due("ROWS", 1, x.count(0));
        Check.due("status()", 2, x.status());
        Check.dueTrace(x, 24, 21, 20);
        Check.due("a fault deep in a text", Check.FAULTS - 25 - 11, Check.read(x, LAW + "beast ewe 1!"));
        Check.due("HURDLES", 4, x.count(1));
        Check.due("PUSHED", 1, x.hurdle(3, 5));
        Check.due("undo()", 1, x.undo());
        Check.due("restore(1)", 1, x.restore(1));
        Check.due("restore(0)", FoldGates.STATE, x.restore(0));
    }

    private static void aFoldInPlaceOfTheOneBefore() {
        Check.by("all HURDLES stand LEFT, none was PUSHED; PENS are empty; no ACT can be undone");
        FoldGates x = Check.told(Check.ALL_SORTS);
        x.row(0, 0, 24);
        x.runs(0, 0, 24);
        Check.due("a ewe goes anew", 4, Check.read(x, Check.ALL_SORTS));
        for (int h = 0; h < 4; h++) {
            Check.due("hurdle(" + h + ", 4)", 0, x.hurdle(h, 4));
            Check.due("hurdle(" + h + ", 5)", 0, x.hurdle(h, 5));
            Check.due("pen(" + h + ", 0)", 0, x.pen(h, 0));
            Check.due("pen(" + h + ", 1)", 0, x.pen(h, 1));
        }
        Check.due("count(4)", 0, x.count(4));
        Check.due("undo()", FoldGates.STATE, x.undo());
        Check.due("count(0): ROWS stay", 1, x.count(0));
        Check.due("a smaller one", 1, Check.read(x, LAW));
        Check.due("hurdle(1, 0)", BAD, x.hurdle(1, 0));
        Check.due("heavy(0)", BAD, x.heavy(0));
        Check.due("pen(1, 0)", BAD, x.pen(1, 0));
        Check.due("dawn(2)", BAD, x.dawn(2));
    }
}
