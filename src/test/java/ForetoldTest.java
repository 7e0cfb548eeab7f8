/** Promises 16 to 23. */
public final class ForetoldTest {
    private static final int BAD = FoldGates.BAD, STATE = FoldGates.STATE, NONE = FoldGates.NONE;

    public static void main(String[] args) {
        stood();
        stoodNonePushed();
        ahead();
        aheadUpToSixty();
        reached();
        reachedLeastByNumbers();
        reachedIsAskedAnew();
        rounds();
        sticks();
        theft();
        mixed();
        refusedInOrder();
        nothingChanges();
        Check.end();
    }

    private static void stood() {
        FoldGates x = Check.told("fold 2;hurdle swing 0 1 0;hurdle swing 0 1 0;beast ewe 1;beast lamb 1;");
        Check.fill(x, 0, 0, 0, 0, 1, 1, 0, 1, 1);
        Check.due("stood of none: all", 4, x.stood(0, 0, 0, 0));
        Check.due("stood of none: the least", 0, x.stood(0, 0, 0, 1));
        Check.due("stood of none at the end", 4, x.stood(0, 8, 0, 0));
        Check.due("ewe 0: h1 LEFT", 2, x.stood(0, 0, 1, 0));
        Check.due("ewe 0: the least", 0, x.stood(0, 0, 1, 1));
        Check.due("ewe 1: the least", 2, x.stood(0, 2, 1, 1));
        Check.due("ewe 0, ewe 1, lamb 0", 2, x.stood(0, 0, 3, 0));
        Check.due("ewe 0, ewe 1, lamb 0, lamb 1", 0, x.stood(0, 0, 4, 0));
        Check.due("and the least of none", NONE, x.stood(0, 0, 4, 1));
        Check.due("status() behind NONE", 0, x.status());
    }

    private static void stoodNonePushed() {
        FoldGates x = Check.told("fold 2;hurdle stiff 0 1 0;beast ewe 1;");
        x.run(0);
        x.run(0);
        Check.fill(x, 0, 0, 0, 0, 0, 0, 0, 0, 1);
        Check.due("three ewes LEFT, the fourth RIGHT", 1, x.stood(0, 0, 4, 0));
        Check.due("from now on that is not so", 0, x.sticks(0, 0, 4));
        FoldGates y = Check.told("fold 2;hurdle post 0 1 0;beast ram 1;");
        Check.fill(y, 0, 0, 1);
        Check.due("a post stood RIGHT", 1, y.stood(0, 0, 1, 1));
    }

    private static void ahead() {
        FoldGates x = Check.told(Check.ALL_SORTS);
        Check.due("ahead(0, 0, 0)", 0, x.ahead(0, 0, 0));
        Check.due("ahead(0, 0, 2)", 1, x.ahead(0, 0, 2));
        Check.due("ahead(0, 0, 3)", 7, x.ahead(0, 0, 3));
        Check.due("ahead(1, 0, 1)", NONE, x.ahead(1, 0, 1));
        x.run(0);
        Check.due("from now on: ahead(0, 0, 3)", 6, x.ahead(0, 0, 3));
        Check.due("ahead(5, 0, 0)", BAD, x.ahead(5, 0, 0));
        Check.due("ahead(0, 5, 0)", BAD, x.ahead(0, 5, 0));
        Check.due("ahead(0, 0, 4)", BAD, x.ahead(0, 0, 4));
        Check.due("ahead(-1, 0, 0)", BAD, x.ahead(-1, 0, 0));
        Check.due("ahead(0, -1, 0)", BAD, x.ahead(0, -1, 0));
        Check.due("ahead(0, 0, -1)", BAD, x.ahead(0, 0, -1));
    }

    /** A chain of stiff ones, through which the lamb comes only behind many ewes. */
    private static void aheadUpToSixty() {
        String chain = "fold 3;hurdle stiff 0 1 0;hurdle stiff 2 10 0;hurdle stiff 2 11 0;hurdle stiff 2 12 0;hurdle stiff 2 13 0;beast ewe 1;beast lamb 1;";
        Check.due("ahead(0, 1, 0)", 45, Check.told(chain).ahead(0, 1, 0));
        int times = 0;
        FoldGates counted = Check.told(chain);
        while (times < 150 && penOfLamb(counted) != 1) {
            counted.run(0);
            times++;
        }
        Check.due("the lamb comes into 1 behind more than 60", 1, times > 60 && times < 150 ? 1 : 0);
        FoldGates x = Check.told(chain);
        for (int k = 61; k < times; k++) x.run(0);
        Check.due("behind 61", NONE, x.ahead(0, 1, 1));
        x.run(0);
        Check.due("behind 60", 60, x.ahead(0, 1, 1));
    }

    private static int penOfLamb(FoldGates y) {
        int pen = y.run(1);
        y.undo();
        return pen;
    }

    private static void reached() {
        FoldGates x = Check.told("fold 2;hurdle swing 0 1 0;hurdle post 0 1 0;hurdle swing 10 11 0;beast lamb 1;beast ewe 1;");
        // ewe: h2 L -> R, h0 L -> R (5); h2 R -> L (1), post; h2 L -> R, h0 R -> L (4); h2 -> L (0)
        Check.due("reached(0, -1)", 0, x.reached(0, -1));
        Check.due("reached(0, 0)", NONE, x.reached(0, 0));
        Check.due("reached(5, -1)", 1, x.reached(5, -1));
        Check.due("reached(1, -1)", 2, x.reached(1, -1));
        Check.due("reached(4, -1)", 3, x.reached(4, -1));
        Check.due("reached(4, 0)", 1, x.reached(4, 0));
        Check.due("reached(4, 2)", 1, x.reached(4, 2));
        Check.due("reached(4, 3)", NONE, x.reached(4, 3));
        Check.due("reached(4, most)", NONE, x.reached(4, Integer.MAX_VALUE));
        Check.due("reached(2, -1)", NONE, x.reached(2, -1));
        Check.due("reached(2, 0)", NONE, x.reached(2, 0));
        Check.due("comes()", 4, x.comes());
        Check.due("reached(8, -1)", BAD, x.reached(8, -1));
        Check.due("reached(-1, -1)", BAD, x.reached(-1, -1));
        Check.due("reached(0, -2)", BAD, x.reached(0, -2));
        FoldGates y = new FoldGates();
        Check.due("reached(-1, -2) without a FOLD", STATE, y.reached(-1, -2));
        Check.due("comes() without a FOLD", STATE, y.comes());
        Check.read(y, "fold 1;hurdle swing 0 0 0;");
        Check.due("comes() without beasts", 1, y.comes());
        Check.due("reached(1, -1) without beasts", NONE, y.reached(1, -1));
    }

    private static void reachedLeastByNumbers() {
        FoldGates x = Check.told("fold 2;hurdle swing 0 1 0;hurdle swing 10 1 0;beast marked 1;beast ram 1;beast ewe 1;beast ram 1;");
        // stands 3: marked, then by h1 RIGHT none comes to h0 but a ram: ewe first is 2, then 0
        Check.due("reached(2, 0): the least of marked, ram", 0, x.reached(2, 0));
        Check.due("reached(3, -1): a ewe alone", 1, x.reached(3, -1));
        Check.due("reached(3, 0)", 2, x.reached(3, 0));
        Check.due("reached(1, -1)", 2, x.reached(1, -1));
        Check.due("reached(1, 0): marked 0, ram 1", 0, x.reached(1, 0));
        Check.due("reached(1, 1): and not ram 3", 1, x.reached(1, 1));
    }

    private static void reachedIsAskedAnew() {
        FoldGates x = Check.told("fold 2;hurdle stiff 0 1 0;beast ewe 1;");
        Check.due("reached(1, -1) at first", 3, x.reached(1, -1));
        x.run(0);
        Check.due("behind one push", 2, x.reached(1, -1));
        x.run(0);
        Check.due("behind two", 1, x.reached(1, -1));
        x.undo();
        Check.due("behind undo()", 2, x.reached(1, -1));
        x.dawn(0);
        Check.due("behind dawn()", 3, x.reached(1, -1));
        x.dawn(1);
        Check.due("of the other one", 3, x.reached(0, -1));
        x.image(0);
        Check.read(x, "fold 2;hurdle swing 0 1 0;beast ewe 1;");
        Check.due("of a new FOLD", 1, x.reached(1, -1));
        x.restore(0);
        Check.due("of the one before", 3, x.reached(0, -1));
    }

    private static void rounds() {
        FoldGates x = Check.told("fold 2;hurdle stiff 0 1 0;beast ewe 1;beast ram 1;beast lamb 1;beast blind 1;beast marked 1;");
        dueRound(x, 0, 0, 6);
        dueRound(x, 1, 0, 2);
        dueRound(x, 2, 0, 1);
        dueRound(x, 3, 0, 1);
        dueRound(x, 4, 1, 1);
        x.run(4);
        dueRound(x, 3, 1, 1);
        dueRound(x, 4, 0, 1);
        Check.due("round(5, 0)", BAD, x.round(5, 0));
        Check.due("round(-1, 0)", BAD, x.round(-1, 0));
        Check.due("round(0, 2)", BAD, x.round(0, 2));
        Check.due("round(0, -1)", BAD, x.round(0, -1));
        FoldGates post = Check.told("fold 2;hurdle post 0 1 0;beast ewe 1;");
        dueRound(post, 0, 0, 1);
        FoldGates swing = Check.told("fold 2;hurdle swing 0 1 0;beast ewe 1;");
        dueRound(swing, 0, 0, 2);
        FoldGates tail = Check.told("fold 2;hurdle swing 0 1 0;hurdle swing 10 10 0;beast marked 1;");
        dueRound(tail, 0, 1, 1);
        tail.dawn(0);
        Check.due("round is BAD without a FOLD", BAD, new FoldGates().round(0, 0));
    }

    private static void dueRound(FoldGates x, int beast, int tail, int later) {
        Check.due("round(" + beast + ", 0)", tail, x.round(beast, 0));
        Check.due("round(" + beast + ", 1)", later, x.round(beast, 1));
    }

    private static void sticks() {
        FoldGates x = Check.told("fold 3;hurdle swing 0 1 0;hurdle swing 10 2 1;beast ewe 1;beast ram 1;");
        // nothing stuck: ewe: h1 L -> R, h0 turns R; ewe goes RIGHT, pen 1. then h1 R: pen 2
        Check.fill(x, 0, 0, 1, 0, 0, 0, 0, 0, 2);
        Check.due("sticks of none: all", 3, x.sticks(0, 0, 0));
        Check.due("ewe 1: neither stuck", 0, x.sticks(0, 0, 1));
        Check.due("ewe 0: either stuck", 3, x.sticks(0, 2, 1));
        Check.due("ewe 0, ewe 0: h1 would turn h0; none", 0, x.sticks(0, 2, 2));
        Check.due("ewe 0, ewe 2: h0 is stuck", 1, x.sticks(0, 4, 2));
        Check.fill(x, 1, 0, 0, 0, 1, 0, 0);
        Check.due("ewe 0, ewe 1, ewe 0: h1 is stuck", 2, x.sticks(1, 0, 3));
        x.dawn(1);
        Check.fill(x, 2, 0, 1);
        Check.due("stuck as it stands now, RIGHT", 3, x.sticks(2, 0, 1));
        Check.fill(x, 3, 1, 2);
        Check.due("ram 2: h0 is stuck", 1, x.sticks(3, 0, 1));
    }

    private static void theft() {
        FoldGates x = Check.told("fold 2;hurdle swing 0 1 0;beast ewe 1;beast lamb 1;beast marked 1;");
        Check.fill(x, 0, 0, 0, 1, 2, 1);
        Check.due("a ewe ahead of all", 3, x.theft(0, 0, 0, 5));
        Check.due("a lamb ahead of all", 0, x.theft(1, 0, 0, 5));
        Check.due("a marked one ahead of one", 1, x.theft(2, 0, 0, 1));
        Check.due("of none", 0, x.theft(0, 0, 5, 0));
        Check.due("theft(3, 0, 0, 1)", BAD, x.theft(3, 0, 0, 1));
        Check.due("theft(-1, 1, 0, 1): BAD is ahead of NULL", BAD, x.theft(-1, 1, 0, 1));
        Check.due("theft(0, 0, 0, 25)", BAD, x.theft(0, 0, 0, 25));
    }

    private static void mixed() {
        FoldGates x = Check.told("fold 3;hurdle swing 1 2 0;beast ewe 1;beast lamb 1;beast ewe 1;beast marked 1;beast blind 1;");
        Check.fill(x, 0, 0, 2, 0, 2, 1, 3);
        Check.due("ewes alone: LEFT, RIGHT, LEFT, RIGHT", 0, x.mixed(0, 0, 4));
        Check.due("a lamb LEFT to them", 2, x.mixed(0, 0, 5));
        Check.due("a marked one RIGHT to them", 6, x.mixed(0, 0, 6));
        Check.due("of one", 0, x.mixed(0, 5, 1));
        Check.due("of none", 0, x.mixed(0, 6, 0));
        x.run(0);
        Check.due("who is there already is not asked", 0, x.mixed(0, 4, 1));
        Check.due("from now on", 4, x.mixed(0, 3, 3));
        x.dawn(1);
        Check.fill(x, 1, 3, 4, 3, 4);
        Check.due("marked RIGHT, blind LEFT", 0, x.mixed(1, 0, 4));
        FoldGates six = Check.told("fold 6;hurdle post 5 0 0;beast marked 1;beast blind 1;");
        Check.fill(six, 0, 0, 1);
        Check.due("the last pen", 32, six.mixed(0, 0, 2));
    }

    private static void refusedInOrder() {
        FoldGates x = new FoldGates();
        Check.due("stood: STATE is ahead of BAD", STATE, x.stood(9, 0, 99, 9));
        Check.due("sticks: STATE is ahead of BAD", STATE, x.sticks(9, 0, 99));
        Check.due("theft: STATE is ahead of BAD", STATE, x.theft(9, 9, 0, 99));
        Check.due("mixed: STATE is ahead of BAD", STATE, x.mixed(9, 0, 99));
        Check.due("ahead without a FOLD", BAD, x.ahead(0, 0, 0));
        Check.read(x, Check.ALL_SORTS);
        Check.fill(x, 0, 0, 0, 5, 0, 0, 4, -1, 0, 0, -1);
        int[][] rows = {{-1, 0, 1, BAD}, {8, 0, 1, BAD}, {0, 0, -1, BAD}, {0, 0, 25, BAD}, {1, 0, 25, BAD},
            {1, 0, 1, Check.NULL}, {1, -1, 1, Check.NULL}, {0, -1, 1, Check.PLACE}, {0, 9, 2, Check.PLACE},
            {0, 11, 0, Check.PLACE}, {0, Integer.MAX_VALUE, 12, Check.PLACE}, {0, 2, 1, BAD}, {0, 6, 1, BAD}};
        for (int[] r : rows) {
            String told = r[0] + ", " + r[1] + ", " + r[2];
            Check.due("stood " + told, r[3], x.stood(r[0], r[1], r[2], 0));
            Check.due("sticks " + told, r[3], x.sticks(r[0], r[1], r[2]));
            Check.due("theft " + told, r[3], x.theft(0, r[0], r[1], r[2]));
            Check.due("mixed " + told, r[3], x.mixed(r[0], r[1], r[2]));
        }
        Check.due("stood(0, 0, 1, 2)", BAD, x.stood(0, 0, 1, 2));
        Check.due("stood(1, 0, 1, -1): BAD is ahead of NULL", BAD, x.stood(1, 0, 1, -1));
        Check.due("stood(0, 0, 13, 0)", BAD, x.stood(0, 0, 13, 0));
        Check.due("sticks(0, 0, 13)", BAD, x.sticks(0, 0, 13));
        Check.due("stood of no PEN", BAD, x.stood(0, 4, 1, 0));
        Check.due("sticks of no PEN", BAD, x.sticks(0, 8, 1));
        Check.due("stood at a PLACE beyond by pairs", Check.PLACE, x.stood(0, 0, 6, 0));
        Check.due("status() is of PLACE", 2, x.status());
        x.stood(0, 4, 1, 0);
        Check.due("status() behind BAD items stays", 2, x.status());
        x.mixed(0, 0, 2);
        Check.due("status() behind mixed", 0, x.status());
        x.sticks(3, 0, 1);
        Check.due("status() behind NULL", 1, x.status());
        x.theft(0, 0, 0, 1);
        Check.due("status() behind theft", 0, x.status());
    }

    private static void nothingChanges() {
        FoldGates x = Check.told(Check.ALL_SORTS);
        x.run(0);
        x.run(1);
        x.image(0);
        Check.fill(x, 0, 0, 2, 1, 1, 3, 0, 4, 3);
        x.stood(0, 0, 4, 0);
        x.sticks(0, 0, 4);
        x.theft(0, 0, 0, 8);
        x.mixed(0, 0, 8);
        x.ahead(0, 1, 3);
        x.reached(15, -1);
        x.comes();
        x.round(0, 0);
        x.ask(0, 0);
        Check.due("in PENS", 2, x.count(6));
        Check.due("ACTS", 2, x.count(4));
        int stands = x.count(5);
        int[] pushed = new int[4];
        for (int h = 0; h < 4; h++) pushed[h] = x.hurdle(h, 5);
        x.restore(0);
        Check.due("they stand as they did", x.count(5), stands);
        for (int h = 0; h < 4; h++) Check.due("PUSHED as they were", x.hurdle(h, 5), pushed[h]);
    }
}
