import java.util.Arrays;

/** A fold of hurdles that remember the last beast; ../shared/DOC.md tells every answer. */
public final class FoldGates {
    public static final int NONE = -1000000, BAD = -1000001, STATE = -1000002, FULL = -1000003;

    private static final int NO_FINDING = 0, NULL = 1, PLACE = 2, KIND = 3, SIZE = 4, STORE = 5;
    private static final int FINDINGS = -1000010, FAULTS = -1000100;

    private static final int ROWS = 8, MOST_ITEMS = 40, BYTES = 0, SHORTS = 1, INTS = 2;
    private static final int MOST_BYTES = 400;
    private static final int MOST_PENS = 6, MOST_HURDLES = 5, MOST_BEASTS = 8, MOST_HEAVY = 99;
    private static final int MOST_IN_PENS = 9999, MOST_ACTS = 24, IMAGES = 2;
    private static final int MOST_RUNS = 24, MOST_PAIRS = 12, MOST_AHEAD = 60;

    /** What stands LEFT or RIGHT of a hurdle is a pen below this, and a hurdle from this on. */
    private static final int FIRST_WAY = 10;
    private static final int LEFT = 0, RIGHT = 1;
    private static final int SWING = 0, STIFF = 1, POST = 2;
    private static final int BEAST = 0, EWE = 1, RAM = 2, LAMB = 3, BLIND = 4, MARKED = 5;
    private static final int KINDS = 6;
    private static final int NO_HURDLE = -1;

    /** 2 ways to stand of each of 5 hurdles, times what 3 leaves over of the pushes of each. */
    private static final int STANDINGS = 1 << MOST_HURDLES, STATES = STANDINGS * 243;

    /** For each kind the nearest that it is, too; BEAST is the last, and stays itself. */
    private static final int[] KIND_ABOVE = {BEAST, BEAST, EWE, EWE, BEAST, BLIND};
    private static final int ASK_SIZE = 0, ASK_MARK = 1, NO_BODY = 0;
    private static final int[] SIZE_BODIES = {10, 11, 12, NO_BODY, 13, 14};
    private static final int[] MARK_BODIES = {20, 21, 24, 22, 23, NO_BODY};
    private static final int MOST_TRACED = 16;

    /** The deepest chain of bodies has 6 of them; this only ends what could never be. */
    private static final int DEEPEST_BODY = 12;

    private final Row[] rows = new Row[ROWS];
    private final Tape tape = new Tape();
    private final Standing now;
    private final Standing trial;
    private final Standing secondTrial;
    private final Standing[] acts = new Standing[MOST_ACTS];
    private int nextAct = 0;
    private int actsKept = 0;
    private final Standing[] images = new Standing[IMAGES];
    private Search search = null;
    private final int[] traced = new int[MOST_TRACED];
    private int tracedSize = 0;
    private int latestFault = 0;
    private int latestFinding = NO_FINDING;

    public FoldGates() {
        Plan none = new Plan();
        now = new Standing(none);
        trial = new Standing(none);
        secondTrial = new Standing(none);
        for (int i = 0; i < ROWS; i++) rows[i] = new Row();
        for (int i = 0; i < MOST_ACTS; i++) acts[i] = new Standing(none);
        for (int i = 0; i < IMAGES; i++) images[i] = new Standing(none);
    }

    // ---- rows

    public int row(int row, int lane, int n) {
        if (!isRow(row) || lane < BYTES || lane > INTS || n > MOST_ITEMS) return BAD;
        if (n < 0) return found(SIZE);
        rows[row].begin(lane, n);
        return foundNothing(n);
    }

    public int set(int row, int i, int v) {
        if (!isRow(row)) return BAD;
        int finding = findingOf(row, i, 1);
        if (finding != NO_FINDING) return found(finding);
        return foundNothing(rows[row].put(i, v));
    }

    public int copy(int a, int i, int b, int j, int n) {
        if (!isRow(a) || !isRow(b)) return BAD;
        Row from = rows[a];
        Row to = rows[b];
        if (from.isMissing() || to.isMissing()) return found(NULL);
        if (from.lane != to.lane) return found(STORE);
        if (!from.has(i, n) || !to.has(j, n)) return found(PLACE);
        System.arraycopy(from.items, i, to.items, j, n);
        return foundNothing(n);
    }

    public int drop(int row) {
        if (!isRow(row)) return BAD;
        if (rows[row].isMissing()) return found(NULL);
        int had = rows[row].size;
        rows[row].lose();
        return foundNothing(had);
    }

    // ---- folds, acts

    public int feed(long w, int n) {
        if (n < 1 || n > 8) return BAD;
        if (tape.length > MOST_BYTES - n) return FULL;
        tape.add(w, n);
        return tape.length;
    }

    public int fold() {
        Plan plan = tape.read();
        if (plan == null) {
            latestFault = tape.faultNumber;
            return FAULTS - tape.start;
        }
        now.begin(plan, 0);
        forgetActs();
        return plan.hurdles;
    }

    public int fault() {
        return latestFault;
    }

    public int run(int beast) {
        if (!isBeast(beast)) return BAD;
        if (now.inPens() >= MOST_IN_PENS) return FULL;
        return act(beast);
    }

    public int runs(int row, int i, int n) {
        if (noFold()) return STATE;
        if (!isRow(row) || n < 1 || n > MOST_RUNS) return BAD;
        int finding = findingOf(row, i, n);
        if (finding != NO_FINDING) return found(finding);
        if (!areBeasts(row, i, n)) return BAD;
        if (now.inPens() > MOST_IN_PENS - n) return FULL;
        int last = 0;
        for (int k = 0; k < n; k++) last = act(rows[row].item(i + k));
        return foundNothing(last);
    }

    public int dawn(int stands) {
        if (noFold()) return STATE;
        if (!isStanding(stands)) return BAD;
        int stood = now.stands;
        keepAct();
        now.begin(now.plan, stands);
        return stood;
    }

    public int undo() {
        if (actsKept == 0) return STATE;
        actsKept--;
        nextAct = (nextAct + MOST_ACTS - 1) % MOST_ACTS;
        now.takeFrom(acts[nextAct]);
        return actsKept;
    }

    public int hurdle(int hurdle, int what) {
        if (hurdle < 0 || hurdle >= now.plan.hurdles) return BAD;
        switch (what) {
            case 0: return now.plan.left[hurdle];
            case 1: return now.plan.right[hurdle];
            case 2: return now.plan.tie[hurdle];
            case 3: return now.plan.hurdleSort[hurdle];
            case 4: return now.sideOf(hurdle);
            case 5: return now.pushed[hurdle];
            default: return BAD;
        }
    }

    public int heavy(int beast) {
        return isBeast(beast) ? now.plan.beastHeavy[beast] : BAD;
    }

    public int pen(int pen, int what) {
        if (!isPen(pen) || !isFirstOrSecond(what)) return BAD;
        return what == 0 ? now.penCount[pen] : now.penHeavy[pen];
    }

    // ---- foretold

    public int stood(int row, int i, int n, int what) {
        if (noFold()) return STATE;
        if (!isRow(row) || n < 0 || n > MOST_PAIRS || !isFirstOrSecond(what)) return BAD;
        int finding = findingOf(row, i, 2 * n);
        if (finding != NO_FINDING) return found(finding);
        if (!arePairs(row, i, n)) return BAD;
        int fitting = 0;
        int least = NONE;
        for (int stands = (1 << now.plan.hurdles) - 1; stands >= 0; stands--) {
            trial.begin(now.plan, stands);
            if (comeAsTold(rows[row], i, n, NO_HURDLE)) {
                fitting++;
                least = stands;
            }
        }
        return foundNothing(what == 0 ? fitting : least);
    }

    public int ahead(int runs, int beast, int pen) {
        if (!isBeast(runs) || !isBeast(beast) || !isPen(pen)) return BAD;
        trial.takeFrom(now);
        for (int times = 0; times <= MOST_AHEAD; times++) {
            secondTrial.takeFrom(trial);
            if (secondTrial.send(beast, NO_HURDLE) == pen) return times;
            trial.send(runs, NO_HURDLE);
        }
        return NONE;
    }

    public int reached(int stands, int k) {
        if (noFold()) return STATE;
        if (!isStanding(stands) || k < -1) return BAD;
        Search ways = searchFromNow();
        if (!ways.finds(stands)) return NONE;
        int length = ways.lengthTo(stands);
        if (k == -1) return length;
        return k < length ? ways.beastBefore(stands, length - 1 - k) : NONE;
    }

    public int comes() {
        return noFold() ? STATE : searchFromNow().standingsFound;
    }

    public int round(int beast, int what) {
        if (!isBeast(beast) || !isFirstOrSecond(what)) return BAD;
        int later = roundLength(beast);
        return what == 0 ? tailLength(beast, later) : later;
    }

    public int sticks(int row, int i, int n) {
        if (noFold()) return STATE;
        if (!isRow(row) || n < 0 || n > MOST_PAIRS) return BAD;
        int finding = findingOf(row, i, 2 * n);
        if (finding != NO_FINDING) return found(finding);
        if (!arePairs(row, i, n)) return BAD;
        int hurdles = 0;
        for (int stuck = 0; stuck < now.plan.hurdles; stuck++) {
            trial.takeFrom(now);
            if (comeAsTold(rows[row], i, n, stuck)) hurdles |= 1 << stuck;
        }
        return foundNothing(hurdles);
    }

    public int theft(int beast, int row, int i, int n) {
        if (noFold()) return STATE;
        if (!isBeast(beast) || !isRow(row) || n < 0 || n > MOST_RUNS) return BAD;
        int finding = findingOf(row, i, n);
        if (finding != NO_FINDING) return found(finding);
        if (!areBeasts(row, i, n)) return BAD;
        trial.takeFrom(now);
        secondTrial.takeFrom(now);
        secondTrial.send(beast, NO_HURDLE);
        int elsewhere = 0;
        for (int k = 0; k < n; k++) {
            int item = rows[row].item(i + k);
            if (trial.send(item, NO_HURDLE) != secondTrial.send(item, NO_HURDLE)) elsewhere++;
        }
        return foundNothing(elsewhere);
    }

    public int mixed(int row, int i, int n) {
        if (noFold()) return STATE;
        if (!isRow(row) || n < 0 || n > MOST_RUNS) return BAD;
        int finding = findingOf(row, i, n);
        if (finding != NO_FINDING) return found(finding);
        if (!areBeasts(row, i, n)) return BAD;
        trial.takeFrom(now);
        long kindsByPen = 0;
        for (int k = 0; k < n; k++) {
            int item = rows[row].item(i + k);
            int pen = trial.send(item, NO_HURDLE);
            kindsByPen |= 1L << (pen * KINDS + now.plan.kindOf(item));
        }
        int pens = 0;
        for (int pen = 0; pen < now.plan.pens; pen++) {
            long kinds = (kindsByPen >>> (pen * KINDS)) & ((1 << KINDS) - 1);
            if (Long.bitCount(kinds) > 1) pens |= 1 << pen;
        }
        return foundNothing(pens);
    }

    public int image(int k) {
        if (!isFirstOrSecond(k)) return BAD;
        if (noFold()) return STATE;
        images[k].takeFrom(now);
        return 1;
    }

    public int restore(int k) {
        if (!isFirstOrSecond(k)) return BAD;
        if (images[k].plan.hurdles == 0) return STATE;
        now.takeFrom(images[k]);
        forgetActs();
        return 1;
    }

    // ---- asked

    public int kind(int beast) {
        return isBeast(beast) ? now.plan.kindOf(beast) : BAD;
    }

    public int as(int beast, int kind) {
        if (!isBeast(beast) || kind < 0 || kind >= KINDS) return BAD;
        int own = now.plan.kindOf(beast);
        for (int k = 0; k < KINDS && own != kind; k++) own = KIND_ABOVE[own];
        return own == kind ? foundNothing(beast) : found(KIND);
    }

    public int ask(int beast, int what) {
        if (!isBeast(beast) || !isFirstOrSecond(what)) return BAD;
        tracedSize = 0;
        return asked(what, beast, 0);
    }

    public int trace(int i) {
        return i >= 0 && i < tracedSize ? traced[i] : NONE;
    }

    public int count(int what) {
        switch (what) {
            case 0: return rowsThere();
            case 1: return now.plan.hurdles;
            case 2: return now.plan.beasts;
            case 3: return now.plan.pens;
            case 4: return actsKept;
            case 5: return now.stands;
            case 6: return now.inPens();
            case 7: return tape.length;
            default: return BAD;
        }
    }

    public int status() {
        return latestFinding;
    }

    // ---- what is told, and what is there

    private boolean noFold() {
        return now.plan.hurdles == 0;
    }

    private boolean isBeast(int beast) {
        return beast >= 0 && beast < now.plan.beasts;
    }

    private boolean isPen(int pen) {
        return pen >= 0 && pen < now.plan.pens;
    }

    private boolean isStanding(int stands) {
        return stands >= 0 && stands < 1 << now.plan.hurdles;
    }

    private static boolean isRow(int row) {
        return row >= 0 && row < ROWS;
    }

    private static boolean isFirstOrSecond(int what) {
        return what == 0 || what == 1;
    }

    private int rowsThere() {
        int there = 0;
        for (int i = 0; i < ROWS; i++) if (!rows[i].isMissing()) there++;
        return there;
    }

    private int findingOf(int row, int i, int n) {
        if (rows[row].isMissing()) return NULL;
        return rows[row].has(i, n) ? NO_FINDING : PLACE;
    }

    private int found(int finding) {
        latestFinding = finding;
        return FINDINGS - finding;
    }

    private int foundNothing(int answer) {
        latestFinding = NO_FINDING;
        return answer;
    }

    private boolean areBeasts(int row, int i, int n) {
        for (int k = 0; k < n; k++) if (!isBeast(rows[row].item(i + k))) return false;
        return true;
    }

    private boolean arePairs(int row, int i, int n) {
        for (int k = 0; k < n; k++) {
            if (!isBeast(rows[row].item(i + 2 * k))) return false;
            if (!isPen(rows[row].item(i + 2 * k + 1))) return false;
        }
        return true;
    }

    // ---- acts

    private int act(int beast) {
        keepAct();
        int pen = now.send(beast, NO_HURDLE);
        now.admit(pen, now.plan.heavyOf(beast));
        return pen;
    }

    private void keepAct() {
        acts[nextAct].takeFrom(now);
        nextAct = (nextAct + 1) % MOST_ACTS;
        if (actsKept < MOST_ACTS) actsKept++;
    }

    private void forgetActs() {
        actsKept = 0;
    }

    // ---- foretelling

    /** Whether the pairs of a row come true from how the trial stands. */
    private boolean comeAsTold(Row told, int i, int n, int stuck) {
        for (int k = 0; k < n; k++) {
            if (trial.send(told.item(i + 2 * k), stuck) != told.item(i + 2 * k + 1)) return false;
        }
        return true;
    }

    private Search searchFromNow() {
        if (search == null) search = new Search(now);
        search.from(now);
        return search;
    }

    /** Brent's way: a mark is set further and further on, till the beast comes by it again. */
    private int roundLength(int beast) {
        trial.takeFrom(now);
        int mark = trial.code();
        int length = 0;
        int reach = 1;
        for (int steps = 0; steps < 4 * STATES; steps++) {
            trial.send(beast, NO_HURDLE);
            length++;
            if (trial.code() == mark) return length;
            if (length == reach) {
                mark = trial.code();
                reach *= 2;
                length = 0;
            }
        }
        return length;
    }

    private int tailLength(int beast, int round) {
        trial.takeFrom(now);
        secondTrial.takeFrom(now);
        for (int k = 0; k < round; k++) secondTrial.send(beast, NO_HURDLE);
        int tail = 0;
        while (tail < STATES && trial.code() != secondTrial.code()) {
            trial.send(beast, NO_HURDLE);
            secondTrial.send(beast, NO_HURDLE);
            tail++;
        }
        return tail;
    }

    // ---- bodies

    private int asked(int what, int beast, int depth) {
        int[] bodies = what == ASK_SIZE ? SIZE_BODIES : MARK_BODIES;
        int kind = now.plan.kindOf(beast);
        for (int k = 0; k < KINDS && bodies[kind] == NO_BODY; k++) kind = KIND_ABOVE[kind];
        return body(bodies[kind], beast, depth + 1);
    }

    private int body(int number, int beast, int depth) {
        if (depth > DEEPEST_BODY) return 0;
        if (tracedSize < MOST_TRACED) traced[tracedSize++] = number;
        int next = depth + 1;
        switch (number) {
            case 10: return now.plan.heavyOf(beast);
            case 11: return body(10, beast, next) + asked(ASK_MARK, beast, next);
            case 12: return -body(11, beast, next);
            case 13: return body(10, beast, next) - 100;
            case 14: return body(13, beast, next) * 2;
            case 20: return beast;
            case 21: return body(20, beast, next) + penNow(beast);
            case 22: return body(21, beast, next) - 1000;
            case 23: return body(20, beast, next) - asked(ASK_SIZE, beast, next);
            case 24: return body(21, beast, next) * 2;
            default: return 0;
        }
    }

    private int penNow(int beast) {
        trial.takeFrom(now);
        return trial.send(beast, NO_HURDLE);
    }

    /** Items of one lane; the room for them is made once and used again. */
    private static final class Row {
        private static final int MISSING = -1;

        final int[] items = new int[MOST_ITEMS];
        int lane = BYTES;
        int size = MISSING;

        boolean isMissing() {
            return size == MISSING;
        }

        boolean has(int i, int n) {
            return i >= 0 && n >= 0 && n <= size && i <= size - n;
        }

        void begin(int newLane, int newSize) {
            lane = newLane;
            size = newSize;
            Arrays.fill(items, 0);
        }

        void lose() {
            size = MISSING;
        }

        int put(int i, int v) {
            if (!has(i, 1)) return NONE;
            items[i] = lane == BYTES ? (byte) v : lane == SHORTS ? (short) v : v;
            return items[i];
        }

        int item(int i) {
            return has(i, 1) ? items[i] : NONE;
        }
    }

    /** What a text tells of a fold; it never changes once the text is read. */
    private static final class Plan {
        int pens = 0;
        int hurdles = 0;
        int beasts = 0;
        final int[] hurdleSort = new int[MOST_HURDLES];
        final int[] left = new int[MOST_HURDLES];
        final int[] right = new int[MOST_HURDLES];
        final int[] tie = new int[MOST_HURDLES];
        final int[] beastKind = new int[MOST_BEASTS];
        final int[] beastHeavy = new int[MOST_BEASTS];

        int kindOf(int beast) {
            return beast >= 0 && beast < beasts ? beastKind[beast] : BEAST;
        }

        int heavyOf(int beast) {
            return beast >= 0 && beast < beasts ? beastHeavy[beast] : 0;
        }

        /** Whether a number names a pen, or a hurdle told ahead of the one that is read. */
        boolean isWay(int way) {
            return way >= 0 && way < pens || way >= FIRST_WAY && way < FIRST_WAY + hurdles;
        }

        /** How many codes there are: 2 ways to stand of each hurdle, and 3 times as many for a stiff one. */
        int codes() {
            int all = 1 << hurdles;
            for (int h = 0; h < hurdles; h++) if (hurdleSort[h] == STIFF) all *= 3;
            return all;
        }

        int standsIn(int code) {
            return code & (1 << hurdles) - 1;
        }

        /** How many standings there could be at all: posts never turn. */
        int mostStandings() {
            int turning = 0;
            for (int h = 0; h < hurdles; h++) if (hurdleSort[h] != POST) turning++;
            return 1 << turning;
        }

        /** Beasts (bits), the first of each kind: others of it move the hurdles just alike. */
        int firstOfKinds() {
            int kinds = 0;
            int firsts = 0;
            for (int beast = 0; beast < beasts; beast++) {
                if ((kinds >> kindOf(beast) & 1) == 0) firsts |= 1 << beast;
                kinds |= 1 << kindOf(beast);
            }
            return firsts;
        }
    }

    /** How the hurdles of a plan stand, how often they were pushed, and what is in the pens. */
    private static final class Standing {
        Plan plan;
        int stands = 0;
        final int[] pushed = new int[MOST_HURDLES];
        final int[] penCount = new int[MOST_PENS];
        final int[] penHeavy = new int[MOST_PENS];

        Standing(Plan plan) {
            this.plan = plan;
        }

        void begin(Plan newPlan, int newStands) {
            plan = newPlan;
            stands = newStands;
            Arrays.fill(pushed, 0);
            Arrays.fill(penCount, 0);
            Arrays.fill(penHeavy, 0);
        }

        void takeFrom(Standing other) {
            plan = other.plan;
            stands = other.stands;
            System.arraycopy(other.pushed, 0, pushed, 0, MOST_HURDLES);
            System.arraycopy(other.penCount, 0, penCount, 0, MOST_PENS);
            System.arraycopy(other.penHeavy, 0, penHeavy, 0, MOST_PENS);
        }

        int sideOf(int hurdle) {
            return (stands >> hurdle) & 1;
        }

        int inPens() {
            int all = 0;
            for (int pen = 0; pen < MOST_PENS; pen++) all += penCount[pen];
            return all;
        }

        void admit(int pen, int heavy) {
            if (pen < 0 || pen >= MOST_PENS) return;
            penCount[pen]++;
            penHeavy[pen] += heavy;
        }

        /** A beast runs, with one hurdle stuck as if it were a post; pens are as they were. */
        int send(int beast, int stuck) {
            int kind = plan.kindOf(beast);
            int at = plan.hurdles - 1;
            for (int k = 0; k < MOST_HURDLES && at >= 0 && at < MOST_HURDLES; k++) {
                int way = pass(at, kind, stuck) == LEFT ? plan.left[at] : plan.right[at];
                if (way < FIRST_WAY) return way;
                at = way - FIRST_WAY;
            }
            return NONE;
        }

        private int pass(int at, int kind, int stuck) {
            int stood = sideOf(at);
            if (kind == EWE) pushed[at]++;
            if (isFixed(at, stuck)) return stood;
            int side = sideTaken(kind, stood);
            if (sideLeftBehind(at, kind, side) != stood) {
                stands ^= 1 << at;
                int tied = plan.tie[at] - 1;
                if (tied >= 0 && !isFixed(tied, stuck)) stands ^= 1 << tied;
            }
            return side;
        }

        private boolean isFixed(int hurdle, int stuck) {
            return hurdle == stuck || hurdle >= MOST_HURDLES || plan.hurdleSort[hurdle] == POST;
        }

        private static int sideTaken(int kind, int stood) {
            switch (kind) {
                case RAM: return RIGHT - stood;
                case BLIND: return LEFT;
                case MARKED: return RIGHT;
                default: return stood;
            }
        }

        private int sideLeftBehind(int at, int kind, int side) {
            if (kind != EWE) return side;
            boolean swings = plan.hurdleSort[at] == SWING || pushed[at] % 3 == 0;
            return swings ? RIGHT - side : side;
        }

        /** All that decides where beasts will go: how hurdles stand, and pushes of stiff ones by 3. */
        int code() {
            int pushes = 0;
            for (int h = plan.hurdles - 1; h >= 0; h--) {
                if (plan.hurdleSort[h] == STIFF) pushes = pushes * 3 + pushed[h] % 3;
            }
            return pushes << plan.hurdles | stands;
        }

        void standAs(int code) {
            stands = plan.standsIn(code);
            int pushes = code >> plan.hurdles;
            for (int h = 0; h < plan.hurdles; h++) {
                if (plan.hurdleSort[h] != STIFF) continue;
                pushed[h] = pushes % 3;
                pushes /= 3;
            }
        }
    }

    /**
     * All that beasts can bring about from a start, found in breadth and by the beasts' numbers:
     * the way by which a standing is found first is then the least of the shortest.
     */
    private static final class Search {
        private static final int NOT_FOUND = -1, AT_START = -2;

        private final Standing trial;
        private Plan plan = null;
        private int start = 0;
        private int movers = 0;
        private int found = 0;
        /** No more is looked for once all that there could be are found. */
        int standingsFound = 0;
        /** Codes in the order in which they are found. */
        private int[] order = new int[0];
        /** For each code the one ahead of it, times 8, and the beast that ran there. */
        private int[] cameBy = new int[0];
        /** For each standing the code with which it is found first. */
        private final int[] firstOf = new int[STANDINGS];

        Search(Standing now) {
            trial = new Standing(now.plan);
        }

        /** Asked again from the same start, it keeps what it found. */
        void from(Standing now) {
            int code = now.code();
            if (plan == now.plan && start == code) return;
            plan = now.plan;
            start = code;
            movers = plan.firstOfKinds();
            found = 0;
            standingsFound = 0;
            makeRoom(plan.codes());
            Arrays.fill(cameBy, NOT_FOUND);
            Arrays.fill(firstOf, NOT_FOUND);
            trial.begin(plan, 0);
            note(code, AT_START);
            int most = plan.mostStandings();
            for (int k = 0; k < found && k < order.length && standingsFound < most; k++) spread(order[k]);
        }

        /** Most folds have few codes: only a larger fold than those before it needs new rows. */
        private void makeRoom(int codes) {
            if (codes <= order.length || codes > STATES) return;
            order = new int[codes];
            cameBy = new int[codes];
        }

        private void spread(int code) {
            for (int beast = 0; beast < plan.beasts; beast++) {
                if ((movers >> beast & 1) == 0) continue;
                trial.standAs(code);
                trial.send(beast, NO_HURDLE);
                note(trial.code(), code * MOST_BEASTS + beast);
            }
        }

        private void note(int code, int by) {
            if (!isCode(code) || found >= order.length || cameBy[code] != NOT_FOUND) return;
            cameBy[code] = by;
            order[found] = code;
            found++;
            int stands = plan.standsIn(code);
            if (firstOf[stands] == NOT_FOUND) {
                firstOf[stands] = code;
                standingsFound++;
            }
        }

        private boolean isCode(int code) {
            return code >= 0 && code < cameBy.length;
        }

        private boolean isBehindOther(int code) {
            return isCode(code) && cameBy[code] >= 0;
        }

        boolean finds(int stands) {
            return stands >= 0 && stands < STANDINGS && firstOf[stands] != NOT_FOUND;
        }

        int lengthTo(int stands) {
            if (!finds(stands)) return 0;
            int length = 0;
            int code = firstOf[stands];
            while (length < STATES && isBehindOther(code)) {
                code = cameBy[code] / MOST_BEASTS;
                length++;
            }
            return length;
        }

        /** The beast that runs with so many others behind it till all stand as told. */
        int beastBefore(int stands, int others) {
            if (!finds(stands)) return NONE;
            int code = firstOf[stands];
            for (int k = 0; k < others && isBehindOther(code); k++) code = cameBy[code] / MOST_BEASTS;
            return isBehindOther(code) ? cameBy[code] % MOST_BEASTS : NONE;
        }
    }

    /** Bytes that are fed, and the reading of them as a fold. */
    private static final class Tape {
        private static final int END = 0, NAME = 1, NUMBER = 2, SIGN = 3, NO_TOKEN = 4;
        private static final int CANNOT_STAND = 1, NOT_AS_TOLD = 2, NO_ROOM = 3;
        private static final int MOST_FIGURES = 3;

        final byte[] bytes = new byte[MOST_BYTES];
        int length = 0;
        /** The first byte of the token that is looked at, and the first one behind it. */
        int start = 0;
        private int end = 0;
        private int token = END;
        private int value = 0;
        int faultNumber = 0;

        void add(long w, int n) {
            for (int k = n - 1; k >= 0 && length < MOST_BYTES; k--) {
                bytes[length] = (byte) (w >>> (8 * k));
                length++;
            }
        }

        /** The plan that is told; null, with the fault's number and its place as start, if none is. */
        Plan read() {
            Plan plan = new Plan();
            end = 0;
            next();
            boolean isWhole = readLaw(plan) && readHurdles(plan) && readBeasts(plan);
            length = 0;
            return isWhole ? plan : null;
        }

        private boolean readLaw(Plan plan) {
            if (!isWord("fold")) return faulty(CANNOT_STAND);
            next();
            if (!isNumber(1, MOST_PENS)) return false;
            plan.pens = value;
            next();
            if (!isSign()) return false;
            next();
            return true;
        }

        private boolean readHurdles(Plan plan) {
            if (!isWord("hurdle")) return faulty(CANNOT_STAND);
            for (int k = 0; k < MOST_HURDLES && isWord("hurdle"); k++) {
                next();
                if (!readHurdle(plan)) return false;
                next();
            }
            return !isWord("hurdle") || faulty(NO_ROOM);
        }

        private boolean readHurdle(Plan plan) {
            int h = plan.hurdles;
            int sort = hurdleSort();
            if (sort < 0 || h >= MOST_HURDLES) return faulty(CANNOT_STAND);
            plan.hurdleSort[h] = sort;
            next();
            if (!isWay(plan)) return false;
            plan.left[h] = value;
            next();
            if (!isWay(plan)) return false;
            plan.right[h] = value;
            next();
            if (!isNumber(0, plan.hurdles)) return false;
            plan.tie[h] = value;
            next();
            plan.hurdles++;
            return isSign();
        }

        private boolean readBeasts(Plan plan) {
            for (int k = 0; k < MOST_BEASTS && isWord("beast"); k++) {
                next();
                if (!readBeast(plan)) return false;
                next();
            }
            if (isWord("beast")) return faulty(NO_ROOM);
            return token == END || faulty(CANNOT_STAND);
        }

        private boolean readBeast(Plan plan) {
            int b = plan.beasts;
            int kind = beastKind();
            if (kind < 0 || b >= MOST_BEASTS) return faulty(CANNOT_STAND);
            plan.beastKind[b] = kind;
            next();
            if (!isNumber(1, MOST_HEAVY)) return false;
            plan.beastHeavy[b] = value;
            next();
            plan.beasts++;
            return isSign();
        }

        private boolean isSign() {
            return token == SIGN || faulty(CANNOT_STAND);
        }

        private int hurdleSort() {
            if (isWord("swing")) return SWING;
            if (isWord("stiff")) return STIFF;
            return isWord("post") ? POST : -1;
        }

        private int beastKind() {
            if (isWord("ewe")) return EWE;
            if (isWord("ram")) return RAM;
            if (isWord("lamb")) return LAMB;
            if (isWord("blind")) return BLIND;
            return isWord("marked") ? MARKED : -1;
        }

        private boolean isNumber(int least, int most) {
            if (token != NUMBER) return faulty(CANNOT_STAND);
            return value >= least && value <= most || faulty(NOT_AS_TOLD);
        }

        private boolean isWay(Plan plan) {
            if (token != NUMBER) return faulty(CANNOT_STAND);
            return plan.isWay(value) || faulty(NOT_AS_TOLD);
        }

        private boolean faulty(int number) {
            faultNumber = number;
            return false;
        }

        private boolean isWord(String word) {
            if (token != NAME || end - start != word.length()) return false;
            for (int k = 0; k < word.length(); k++) {
                if (byteAt(start + k) != word.charAt(k)) return false;
            }
            return true;
        }

        private void next() {
            while (end < length && isBlank(byteAt(end))) end++;
            start = end;
            if (end >= length) {
                token = END;
            } else if (isLetter(byteAt(end))) {
                token = NAME;
                while (end < length && isLetter(byteAt(end))) end++;
            } else if (isFigure(byteAt(end))) {
                nextNumber();
            } else {
                token = byteAt(end) == ';' ? SIGN : NO_TOKEN;
                end++;
            }
        }

        /** More figures than a number may have are no token at all. */
        private void nextNumber() {
            value = 0;
            while (end < length && isFigure(byteAt(end))) {
                if (end - start < MOST_FIGURES) value = value * 10 + byteAt(end) - '0';
                end++;
            }
            token = end - start > MOST_FIGURES ? NO_TOKEN : NUMBER;
        }

        private int byteAt(int place) {
            return place >= 0 && place < length ? bytes[place] : 0;
        }

        private static boolean isBlank(int b) {
            return b == 32 || b == 10;
        }

        private static boolean isLetter(int b) {
            return b >= 'a' && b <= 'z';
        }

        private static boolean isFigure(int b) {
            return b >= '0' && b <= '9';
        }
    }
}
