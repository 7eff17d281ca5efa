import java.util.Arrays;

/** A ball on a cord, a hand that pulls it, and cups on the hand: tries, grids of pulls, odds, tricks and films. */
public final class BallInCup {
    public static final int BAD = -1, NOT = -2, FULL = -3, NONE = -4, NULL = -11, CAST = -12, INDEX = -13, SIZE = -14;

    // Where a told thing may be below 0, a refusal is this much lower, so that the two can't be mixed up.
    private static final int LOWER = 100000;
    private static final int FAULT = -20;
    private static final int FINE = 0;

    private static final int CORD = 0, WEIGHT = 1, SOFT = 2;
    private static final int[] LEAST_SETTINGS = {10, 1, 0};
    private static final int[] MOST_SETTINGS = {60, 4, 20};
    private static final int[] FIRST_SETTINGS = {30, 1, 6};

    private static final int X = 0, Y = 1, WIDE = 2, WORTH = 3, SPIKE = 4, CUP_COLUMNS = 5;
    private static final int STEPS = 0, U = 1, V = 2, PART_COLUMNS = 3;
    private static final int ODDS = 0, SECONDS = 1, GAIN = 2, MAY = 3, TRICK_COLUMNS = 4;

    private static final int MOST_CUPS = 4, MOST_PARTS = 6, MOST_TRICKS = 8;
    private static final int MOST_PART_STEPS = 20, MOST_WORTH = 99, MOST_DIGIT = 9;
    private static final int MOST_ODDS = 16, MOST_SECONDS = 60, MOST_MAY = 9, MOST_TIME = 180, MOST_IN_A_ROW = 99;
    private static final int TRY_STEPS = 100, MOST_PACE = 99;
    private static final int TAPE_BYTES = 60, MOST_TYPED = 8;
    private static final int ALL_SHEETS = 4, ALL_LANES = 3, MOST_ITEMS = 24, MOST_PLACES = 12;
    private static final int NO_CUP = -1;
    private static final int ALL_TRICKS = -1;

    private final Setup setup;
    private final Setup kept;
    private boolean isKept;
    private final Try tries;
    private final Grid grid;
    private final Plan plan;
    private final Reader reader;
    private final Sheets sheets;

    public BallInCup() {
        Setup told = new Setup();
        setup = told;
        kept = new Setup();
        isKept = false;
        tries = new Try(told);
        grid = new Grid();
        plan = new Plan();
        reader = new Reader();
        sheets = new Sheets();
    }

    // ---- 1 the toy, a try

    public int set(int what, int v) {
        if (!isIn(what, CORD, SOFT) || !isIn(v, LEAST_SETTINGS[what], MOST_SETTINGS[what])) {
            return BAD;
        }
        int was = setup.settings[what];
        setup.settings[what] = v;
        return was;
    }

    public int cup(int x, int y, int wide, int worth, boolean spike) {
        boolean isPlaced = isIn(x, -MOST_DIGIT, MOST_DIGIT) && isIn(y, -MOST_DIGIT, MOST_DIGIT);
        if (!isPlaced || !isIn(wide, 0, MOST_DIGIT) || !isIn(worth, 0, MOST_WORTH)) {
            return BAD;
        }
        if (setup.cups.isFull()) {
            return FULL;
        }
        return addCup(setup.cups, x, y, wide, worth, spike ? 1 : 0);
    }

    public int told(int cup, int what) {
        if (!setup.cups.has(cup) || !isIn(what, X, SPIKE)) {
            return BAD - LOWER;
        }
        return setup.cups.get(cup, what);
    }

    public int part(int steps, int u, int v) {
        boolean isMove = isIn(u, -MOST_DIGIT, MOST_DIGIT) && isIn(v, -MOST_DIGIT, MOST_DIGIT);
        if (!isMove || !isIn(steps, 1, MOST_PART_STEPS)) {
            return BAD;
        }
        if (setup.parts.isFull()) {
            return FULL;
        }
        return addPart(setup.parts, steps, u, v);
    }

    public int pull(int part, int what) {
        if (!setup.parts.has(part) || !isIn(what, STEPS, V)) {
            return BAD - LOWER;
        }
        return setup.parts.get(part, what);
    }

    public int still() {
        return setup.parts.empty();
    }

    public int type(long w, int n) {
        if (!isIn(n, 1, MOST_TYPED)) {
            return BAD;
        }
        for (int i = 0; i < n; i++) {
            if (!isIn(byteOf(w, i), ' ', '~')) {
                return BAD;
            }
        }
        if (!reader.hasRoom(n)) {
            return FULL;
        }
        for (int i = n - 1; i >= 0; i--) {
            reader.append(byteOf(w, i));
        }
        return reader.size;
    }

    public int toy() {
        int answer = reader.readCups();
        if (answer > 0) {
            setup.cups.takeAll(reader.cups);
        }
        return answer;
    }

    public int pulls() {
        int answer = reader.readParts();
        if (answer > 0) {
            setup.parts.takeAll(reader.parts);
        }
        return answer;
    }

    public int at(int step, int what) {
        if (!isIn(step, 0, TRY_STEPS - 1) || !isIn(what, 0, 8)) {
            return BAD - LOWER;
        }
        tries.beginAsTold();
        tries.goOn(step + 1);
        switch (what) {
            case 0: return tries.x;
            case 1: return tries.y;
            case 2: return tries.paceX;
            case 3: return tries.paceY;
            case 4: return tries.turn;
            case 5: return tries.spin;
            case 6: return tries.hand.x;
            case 7: return tries.hand.y;
            default: return tries.isTaut ? 1 : 0;
        }
    }

    public int end(int what) {
        if (!isIn(what, 0, 3)) {
            return BAD;
        }
        tries.beginAsTold();
        tries.goOn(TRY_STEPS);
        boolean isCaught = tries.caught != NO_CUP;
        switch (what) {
            case 0: return isCaught ? tries.caught : NONE;
            case 1: return isCaught ? tries.steps - 1 : NONE;
            case 2: return tries.rims;
            default: return tries.tautSteps;
        }
    }

    public int count(int what) {
        switch (what) {
            case 0: return setup.cups.size;
            case 1: return setup.parts.size;
            case 2: return setup.pullSteps();
            case 3: return setup.tricks.size;
            default: return BAD;
        }
    }

    // ---- 2 the grid

    public int ends(int u, int v) {
        if (!isIn(u, Grid.LEAST_U, Grid.MOST_U) || !isIn(v, Grid.LEAST_V, Grid.MOST_V)) {
            return BAD;
        }
        if (setup.hasNoPart()) {
            return NOT;
        }
        int cup = tries.endBy(setup.settings[CORD], u, v);
        return cup == NO_CUP ? NONE : cup;
    }

    public int cells(int cup, int what) {
        if (!setup.cups.has(cup) || !isIn(what, 0, 2)) {
            return BAD;
        }
        if (setup.hasNoPart()) {
            return NOT;
        }
        grid.tryAll(tries, setup.settings[CORD]);
        if (what == 0) {
            return grid.pullsInto(cup);
        }
        grid.seekCells(cup);
        return what == 1 ? grid.cellCount : grid.largestCell;
    }

    public int middle(int cup, int what) {
        if (!setup.cups.has(cup) || !isIn(what, 0, 2)) {
            return BAD - LOWER;
        }
        if (setup.hasNoPart()) {
            return NOT - LOWER;
        }
        grid.tryAll(tries, setup.settings[CORD]);
        int pull = grid.middleOf(cup);
        if (pull == Grid.NO_PULL) {
            return NONE - LOWER;
        }
        switch (what) {
            case 0: return Grid.uOf(pull);
            case 1: return Grid.vOf(pull);
            default: return grid.ringsRound(pull, cup);
        }
    }

    public int mended(int cup, int step) {
        if (!setup.cups.has(cup) || !isIn(step, 0, TRY_STEPS - 1)) {
            return BAD;
        }
        if (setup.hasNoPart()) {
            return NOT;
        }
        int cord = setup.settings[CORD];
        int mended = 0;
        for (int pull = 0; pull < Grid.ALL; pull++) {
            int u = Grid.uOf(pull);
            int v = Grid.vOf(pull);
            if (tries.endBy(cord, u, v) != cup && tries.endLate(cup, step, u, v) == cup) {
                mended++;
            }
        }
        return mended;
    }

    public int odds(int cup) {
        if (!setup.cups.has(cup)) {
            return BAD;
        }
        return setup.hasNoPart() ? NOT : tries.oddsBy(setup.settings[CORD], cup);
    }

    // ---- 3 which, most, sizes

    public int which() {
        if (setup.hasNoPart()) {
            return NOT;
        }
        int best = NONE;
        int most = -1;
        for (int cup = 0; cup < setup.cups.size; cup++) {
            int gain = tries.oddsBy(setup.settings[CORD], cup) * setup.cups.get(cup, WORTH);
            if (gain > most) {
                most = gain;
                best = cup;
            }
        }
        return best;
    }

    public int trick(int odds, int seconds, int worth, int may) {
        boolean isGain = isIn(odds, 0, MOST_ODDS) && isIn(worth, 0, MOST_WORTH);
        if (!isGain || !isIn(seconds, 1, MOST_SECONDS) || !isIn(may, 1, MOST_MAY)) {
            return BAD;
        }
        if (setup.tricks.isFull()) {
            return FULL;
        }
        int row = setup.tricks.grow();
        setup.tricks.put(row, ODDS, odds);
        setup.tricks.put(row, SECONDS, seconds);
        setup.tricks.put(row, GAIN, odds * worth);
        setup.tricks.put(row, MAY, may);
        return row;
    }

    public int most(int time, int trick) {
        if (!isIn(time, 0, MOST_TIME) || trick != ALL_TRICKS && !setup.tricks.has(trick)) {
            return BAD;
        }
        plan.weigh(setup.tricks, time);
        return trick == ALL_TRICKS ? plan.mostIn(time) : plan.timesOf(setup.tricks, time, trick);
    }

    public int row(int trick, int n) {
        if (!setup.tricks.has(trick) || !isIn(n, 1, MOST_IN_A_ROW)) {
            return BAD;
        }
        int thousandths = 1000;
        for (int i = 0; i < n; i++) {
            thousandths = thousandths * setup.tricks.get(trick, ODDS) / MOST_ODDS;
        }
        return thousandths;
    }

    public int clear() {
        return setup.tricks.empty();
    }

    public int cord(int cup, int what) {
        if (!setup.cups.has(cup) || !isIn(what, 0, 1)) {
            return BAD;
        }
        if (setup.hasNoPart()) {
            return NOT;
        }
        int best = LEAST_SETTINGS[CORD];
        int most = -1;
        for (int cord = LEAST_SETTINGS[CORD]; cord <= MOST_SETTINGS[CORD]; cord++) {
            int odds = tries.oddsBy(cord, cup);
            if (odds > most) {
                most = odds;
                best = cord;
            }
        }
        return what == 0 ? best : most;
    }

    public int down(int step, int pace) {
        if (!isIn(step, 0, TRY_STEPS - 1) || !isIn(pace, 0, MOST_PACE)) {
            return BAD;
        }
        tries.beginAsTold();
        tries.meetNothing();
        for (int i = 0; i < TRY_STEPS; i++) {
            tries.goOn(i + 1);
            if (i >= step && tries.isSoft(pace)) {
                return i;
            }
        }
        return NONE;
    }

    public int filmed(int sheet, int lane, int i, int n, int what) {
        if (!isRow(sheet, lane) || !isIn(n, 1, MOST_PLACES) || !isIn(what, 0, 2)) {
            return BAD - LOWER;
        }
        int refusal = sheets.refusalOf(sheet, lane, i, 2 * n);
        if (refusal != FINE) {
            return refusal - LOWER;
        }
        if (setup.hasNoPart()) {
            return NOT - LOWER;
        }
        int first = Grid.NO_PULL;
        int found = 0;
        for (int pull = 0; pull < Grid.ALL; pull++) {
            if (isShown(pull, sheet, i, n)) {
                first = found == 0 ? pull : first;
                found++;
            }
        }
        if (what == 0) {
            return found;
        }
        if (found == 0) {
            return NONE - LOWER;
        }
        return what == 1 ? Grid.uOf(first) : Grid.vOf(first);
    }

    public int image() {
        kept.takeAll(setup);
        isKept = true;
        return 1;
    }

    public int restore() {
        if (!isKept) {
            return NONE;
        }
        setup.takeAll(kept);
        return 1;
    }

    // ---- 4 sheets

    public int film(int sheet, int lane, int i, int n) {
        if (!isRow(sheet, lane) || !isIn(n, 1, MOST_PLACES)) {
            return BAD;
        }
        int refusal = sheets.refusalOf(sheet, lane, i, 2 * n);
        if (refusal != FINE) {
            return refusal;
        }
        tries.beginAsTold();
        for (int place = 0; place < n; place++) {
            tries.goOn(place + 1);
            sheets.put(sheet, i + 2 * place, tries.x);
            sheets.put(sheet, i + 2 * place + 1, tries.y);
        }
        return 2 * n;
    }

    public int sheet(int sheet, int lane, int n) {
        if (!isRow(sheet, lane) || n > MOST_ITEMS) {
            return BAD;
        }
        if (n < 0) {
            return SIZE;
        }
        sheets.makeRow(sheet, lane, n);
        return n;
    }

    public int drop(int sheet) {
        if (!isIn(sheet, 0, ALL_SHEETS - 1)) {
            return BAD;
        }
        return sheets.isNothing(sheet) ? NULL : sheets.letGo(sheet);
    }

    public int item(int sheet, int lane, int i, int v) {
        if (!isRow(sheet, lane)) {
            return BAD;
        }
        int refusal = sheets.refusalOf(sheet, lane, i, 1);
        if (refusal != FINE) {
            return refusal;
        }
        sheets.put(sheet, i, v);
        return 1;
    }

    public int copy(int from, int i, int to, int j, int n) {
        if (!isIn(from, 0, ALL_SHEETS - 1) || !isIn(to, 0, ALL_SHEETS - 1)) {
            return BAD;
        }
        if (sheets.isNothing(from) || sheets.isNothing(to)) {
            return NULL;
        }
        if (sheets.lanes[from] != sheets.lanes[to]) {
            return CAST;
        }
        if (!sheets.fits(from, i, n) || !sheets.fits(to, j, n)) {
            return INDEX;
        }
        System.arraycopy(sheets.items[from], i, sheets.items[to], j, n);
        return n;
    }

    // ---- what these calls share

    private static boolean isIn(int v, int least, int most) {
        return v >= least && v <= most;
    }

    private static boolean isRow(int sheet, int lane) {
        return isIn(sheet, 0, ALL_SHEETS - 1) && isIn(lane, 0, ALL_LANES - 1);
    }

    /** Byte i of w, the lowest being byte 0. */
    private static int byteOf(long w, int i) {
        return (int) (w >>> 8 * i) & 255;
    }

    private static int addCup(Table cups, int x, int y, int wide, int worth, int spike) {
        int row = cups.grow();
        cups.put(row, X, x);
        cups.put(row, Y, y);
        cups.put(row, WIDE, wide);
        cups.put(row, WORTH, worth);
        cups.put(row, SPIKE, spike);
        return row;
    }

    private static int addPart(Table parts, int steps, int u, int v) {
        int row = parts.grow();
        parts.put(row, STEPS, steps);
        parts.put(row, U, u);
        parts.put(row, V, v);
        return row;
    }

    /** Whether a pull of the grid shows the n places that a sheet has from item i on. */
    private boolean isShown(int pull, int sheet, int i, int n) {
        tries.begin(setup.settings[CORD], Grid.uOf(pull), Grid.vOf(pull));
        for (int place = 0; place < n; place++) {
            tries.goOn(place + 1);
            int item = i + 2 * place;
            if (sheets.get(sheet, item) != tries.x || sheets.get(sheet, item + 1) != tries.y) {
                return false;
            }
        }
        return true;
    }

    /** Rows of numbers, as they come; every index is looked at here, so that no call can go astray. */
    private static final class Table {
        private final int[][] rows;
        private final int columns;
        private int size;

        Table(int most, int columns) {
            rows = new int[Math.max(most, 0)][Math.max(columns, 0)];
            this.columns = columns;
        }

        boolean isFull() {
            return size >= rows.length;
        }

        boolean has(int row) {
            return row >= 0 && row < size;
        }

        int get(int row, int column) {
            boolean isThere = row >= 0 && row < size && column >= 0 && column < columns;
            return isThere ? rows[row][column] : 0;
        }

        void put(int row, int column, int value) {
            if (has(row) && column >= 0 && column < columns) {
                rows[row][column] = value;
            }
        }

        int grow() {
            if (isFull()) {
                return FULL;
            }
            size++;
            return size - 1;
        }

        int empty() {
            int had = size;
            size = 0;
            return had;
        }

        void takeAll(Table other) {
            size = Math.min(other.size, rows.length);
            for (int row = 0; row < size; row++) {
                for (int column = 0; column < columns; column++) {
                    rows[row][column] = other.get(row, column);
                }
            }
        }
    }

    /** All that an image keeps. */
    private static final class Setup {
        private final int[] settings;
        private final Table cups;
        private final Table parts;
        private final Table tricks;

        Setup() {
            settings = FIRST_SETTINGS.clone();
            cups = new Table(MOST_CUPS, CUP_COLUMNS);
            parts = new Table(MOST_PARTS, PART_COLUMNS);
            tricks = new Table(MOST_TRICKS, TRICK_COLUMNS);
        }

        boolean hasNoPart() {
            return parts.size == 0;
        }

        int pullSteps() {
            int steps = 0;
            for (int part = 0; part < parts.size; part++) {
                steps += parts.get(part, STEPS);
            }
            return steps;
        }

        void takeAll(Setup other) {
            for (int what = CORD; what <= SOFT; what++) {
                settings[what] = other.settings[what];
            }
            cups.takeAll(other.cups);
            parts.takeAll(other.parts);
            tricks.takeAll(other.tricks);
        }
    }

    /** The hand on its way through a pull whose part 0 goes by a u, v of its own. */
    private static final class Hand {
        private final Table parts;
        private int firstU;
        private int firstV;
        private int part;
        private int stepsLeft;
        private int u;
        private int v;
        private int x;
        private int y;

        Hand(Table parts) {
            this.parts = parts;
        }

        void begin(int u, int v) {
            firstU = u;
            firstV = v;
            part = -1;
            stepsLeft = 0;
            this.u = 0;
            this.v = 0;
            x = 0;
            y = 0;
        }

        void go(int aside) {
            if (stepsLeft == 0 && part < parts.size) {
                part++;
                stepsLeft = parts.get(part, STEPS);
            }
            u = aside;
            v = 0;
            if (stepsLeft > 0) {
                stepsLeft--;
                u += part == 0 ? firstU : parts.get(part, U);
                v = part == 0 ? firstV : parts.get(part, V);
            }
            x += u;
            y += v;
        }
    }

    /** A try, gone through step by step. */
    private static final class Try {
        private static final int RIM = 2;
        private static final int TURNS = 16;
        // A ball is never pulled so far in one step: far above what the settings allow, and its square is an int.
        private static final int MOST_ROOT = 40000;

        private final Setup setup;
        private final Hand hand;
        private int cord;
        private boolean isMeeting;
        private int lateCup;
        private int lateStep;
        private int x;
        private int y;
        private int paceX;
        private int paceY;
        private int turn;
        private int spin;
        private boolean isTaut;
        private int steps;
        private int caught;
        private int rims;
        private int tautSteps;

        Try(Setup setup) {
            this.setup = setup;
            hand = new Hand(setup.parts);
        }

        void begin(int cord, int u, int v) {
            hand.begin(u, v);
            this.cord = cord;
            isMeeting = true;
            lateCup = NO_CUP;
            lateStep = 0;
            x = 0;
            y = -cord;
            paceX = 0;
            paceY = 0;
            turn = 0;
            spin = 0;
            isTaut = true;
            steps = 0;
            caught = NO_CUP;
            rims = 0;
            tautSteps = 0;
        }

        void beginAsTold() {
            begin(setup.settings[CORD], setup.parts.get(0, U), setup.parts.get(0, V));
        }

        void meetNothing() {
            isMeeting = false;
        }

        /** Goes on until so many steps are gone, or the ball is caught. */
        void goOn(int until) {
            for (int step = steps; step < until && caught == NO_CUP; step++) {
                goStep();
            }
        }

        /** The cup in which a whole try ends, or NO_CUP. */
        int endBy(int cord, int u, int v) {
            begin(cord, u, v);
            goOn(TRY_STEPS);
            return caught;
        }

        /** The same, with an eye that mends for a cup from a step on. */
        int endLate(int cup, int step, int u, int v) {
            begin(setup.settings[CORD], u, v);
            lateCup = cup;
            lateStep = step;
            goOn(TRY_STEPS);
            return caught;
        }

        /** Sixteenths in which a hand that wanders ends in a cup. */
        int oddsBy(int cord, int cup) {
            int u = setup.parts.get(0, U);
            int v = setup.parts.get(0, V);
            int odds = 0;
            for (int du = -1; du <= 1; du++) {
                for (int dv = -1; dv <= 1; dv++) {
                    if (endBy(cord, u + du, v + dv) == cup) {
                        odds += (2 - Math.abs(du)) * (2 - Math.abs(dv));
                    }
                }
            }
            return odds;
        }

        /** Whether the ball's pace is no more than so much from the hand's. */
        boolean isSoft(int pace) {
            return Math.abs(paceX - hand.u) <= pace && Math.abs(paceY - hand.v) <= pace;
        }

        private void goStep() {
            int aheadY = y - hand.y;
            hand.go(lateSide());
            paceY -= setup.settings[WEIGHT];
            x += paceX;
            y += paceY;
            holdByCord();
            int cup = isMeeting ? metCup(aheadY) : NO_CUP;
            if (cup != NO_CUP) {
                comeDownOn(cup);
            }
            steps++;
        }

        /** The side to which a late eye mends: 1, 0 or -1. */
        private int lateSide() {
            if (lateCup == NO_CUP || steps < lateStep || isTaut) {
                return 0;
            }
            return Integer.compare(x - hand.x, setup.cups.get(lateCup, X));
        }

        private void holdByCord() {
            int p = x - hand.x;
            int q = y - hand.y;
            int square = p * p + q * q;
            isTaut = square > cord * cord;
            if (!isTaut) {
                turn = Math.floorMod(turn + spin, TURNS);
                return;
            }
            int root = wholeRoot(square);
            int heldP = p * cord / root;
            int heldQ = q * cord / root;
            x = hand.x + heldP;
            y = hand.y + heldQ;
            paceX += heldP - p;
            paceY += heldQ - q;
            turn = 0;
            spin = (paceX - hand.u) / 3;
            tautSteps++;
        }

        /** The whole root of a square beyond the cord: it begins at the cord, which is near, and is never 0. */
        private int wholeRoot(int square) {
            int root = Math.max(cord, 1);
            while (root < MOST_ROOT && (root + 1) * (root + 1) <= square) {
                root++;
            }
            return root;
        }

        private int metCup(int aheadY) {
            Table cups = setup.cups;
            int nowX = x - hand.x;
            int nowY = y - hand.y;
            for (int cup = 0; cup < cups.size; cup++) {
                int cupY = cups.get(cup, Y);
                boolean isPassed = aheadY >= cupY && nowY < cupY;
                if (isPassed && Math.abs(nowX - cups.get(cup, X)) <= cups.get(cup, WIDE) + RIM) {
                    return cup;
                }
            }
            return NO_CUP;
        }

        private void comeDownOn(int cup) {
            Table cups = setup.cups;
            boolean isInside = Math.abs(x - hand.x - cups.get(cup, X)) <= cups.get(cup, WIDE);
            boolean isSlow = Math.abs(paceX - hand.u) <= setup.settings[SOFT];
            boolean isUpright = turn == TURNS - 1 || turn == 0 || turn == 1;
            if (isInside && isSlow && (cups.get(cup, SPIKE) == 0 || isUpright)) {
                caught = cup;
            } else {
                rims++;
                paceY = Math.abs(paceY) / 2;
            }
        }
    }

    /** The pulls of the grid by number, u first, so that the lesser number is the lesser u, then v. */
    private static final class Grid {
        private static final int LEAST_U = -4, MOST_U = 4, LEAST_V = 0, MOST_V = 9;
        private static final int COLUMNS = 10;
        private static final int ALL = 90;
        private static final int MOST_RINGS = 4;
        private static final int NO_PULL = -1;

        private final int[] ends;
        private final boolean[] isSeen;
        private final int[] queue;
        private int cellCount;
        private int largestCell;

        Grid() {
            ends = new int[ALL];
            isSeen = new boolean[ALL];
            queue = new int[ALL];
        }

        static int uOf(int pull) {
            return LEAST_U + pull / COLUMNS;
        }

        static int vOf(int pull) {
            return LEAST_V + pull % COLUMNS;
        }

        void tryAll(Try tries, int cord) {
            for (int pull = 0; pull < ALL; pull++) {
                ends[pull] = tries.endBy(cord, uOf(pull), vOf(pull));
            }
        }

        int pullsInto(int cup) {
            int pulls = 0;
            for (int pull = 0; pull < ALL; pull++) {
                pulls += ends[pull] == cup ? 1 : 0;
            }
            return pulls;
        }

        void seekCells(int cup) {
            cellCount = 0;
            largestCell = 0;
            for (int pull = 0; pull < ALL; pull++) {
                isSeen[pull] = false;
            }
            for (int pull = 0; pull < ALL; pull++) {
                int pulls = cellFrom(pull, cup);
                if (pulls > 0) {
                    cellCount++;
                    largestCell = Math.max(largestCell, pulls);
                }
            }
        }

        /** How many pulls not yet seen are in the cell of a pull: each joins the queue once. */
        private int cellFrom(int pull, int cup) {
            int pulls = join(pull, cup, 0);
            for (int i = 0; i < pulls && i < ALL; i++) {
                int next = queue[i];
                int v = vOf(next);
                pulls = v > LEAST_V ? join(next - 1, cup, pulls) : pulls;
                pulls = v < MOST_V ? join(next + 1, cup, pulls) : pulls;
                pulls = join(next - COLUMNS, cup, pulls);
                pulls = join(next + COLUMNS, cup, pulls);
            }
            return pulls;
        }

        private int join(int pull, int cup, int pulls) {
            if (pull < 0 || pull >= ALL || pulls >= ALL || isSeen[pull] || ends[pull] != cup) {
                return pulls;
            }
            isSeen[pull] = true;
            queue[pulls] = pull;
            return pulls + 1;
        }

        int middleOf(int cup) {
            int best = NO_PULL;
            int most = -1;
            for (int pull = 0; pull < ALL; pull++) {
                if (ends[pull] == cup && ringsRound(pull, cup) > most) {
                    most = ringsRound(pull, cup);
                    best = pull;
                }
            }
            return best;
        }

        int ringsRound(int pull, int cup) {
            int rings = 0;
            while (rings < MOST_RINGS && isWhole(uOf(pull), vOf(pull), rings + 1, cup)) {
                rings++;
            }
            return rings;
        }

        private boolean isWhole(int u, int v, int ring, int cup) {
            if (u - ring < LEAST_U || u + ring > MOST_U || v - ring < LEAST_V || v + ring > MOST_V) {
                return false;
            }
            for (int nearU = u - ring; nearU <= u + ring; nearU++) {
                for (int nearV = v - ring; nearV <= v + ring; nearV++) {
                    if (ends[(nearU - LEAST_U) * COLUMNS + nearV - LEAST_V] != cup) {
                        return false;
                    }
                }
            }
            return true;
        }
    }

    /** The most that tricks give in a time: best[k][t] is what the tricks from k on give in t. */
    private static final class Plan {
        private final int[][] best;

        Plan() {
            best = new int[MOST_TRICKS + 1][MOST_TIME + 1];
        }

        void weigh(Table tricks, int time) {
            for (int t = 0; t <= time; t++) {
                best[tricks.size][t] = 0;
            }
            for (int trick = tricks.size - 1; trick >= 0; trick--) {
                for (int t = 0; t <= time; t++) {
                    best[trick][t] = mostFrom(tricks, trick, t);
                }
            }
        }

        int mostIn(int time) {
            return best[0][time];
        }

        /** How often a trick is tried, if each one ahead of it is tried as often as may be. */
        int timesOf(Table tricks, int time, int trick) {
            int left = time;
            int times = 0;
            for (int i = 0; i <= trick; i++) {
                times = mostTimes(tricks, i, left);
                left -= times * tricks.get(i, SECONDS);
            }
            return times;
        }

        private int mostFrom(Table tricks, int trick, int time) {
            int most = 0;
            for (int times = 0; times <= tricks.get(trick, MAY); times++) {
                most = Math.max(most, gainBy(tricks, trick, time, times));
            }
            return most;
        }

        private int mostTimes(Table tricks, int trick, int time) {
            int times = tricks.get(trick, MAY);
            while (times > 0 && gainBy(tricks, trick, time, times) != best[trick][time]) {
                times--;
            }
            return times;
        }

        /** The gain if a trick is tried so often, and the best comes behind; -1 if the time is too short. */
        private int gainBy(Table tricks, int trick, int time, int times) {
            int left = time - times * tricks.get(trick, SECONDS);
            return left < 0 ? -1 : times * tricks.get(trick, GAIN) + best[trick + 1][left];
        }
    }

    /** The tape, and what is read from it. Behind the first fault nothing more is read. */
    private static final class Reader {
        private static final int END = -1;
        private static final int NO_FAULT = -1;
        // Above all that a number may be: longer ones stay here.
        private static final int TOO_MUCH = 1000;

        private final int[] bytes;
        private int size;
        private int place;
        private int fault;
        private final Table cups;
        private final Table parts;

        Reader() {
            bytes = new int[TAPE_BYTES];
            cups = new Table(MOST_CUPS, CUP_COLUMNS);
            parts = new Table(MOST_PARTS, PART_COLUMNS);
        }

        boolean hasRoom(int n) {
            return size + n <= TAPE_BYTES;
        }

        void append(int b) {
            if (size < TAPE_BYTES) {
                bytes[size] = b;
                size++;
            }
        }

        /** How many cups the tape tells, or a fault; it is empty then. */
        int readCups() {
            begin();
            cups.empty();
            // A ; behind the last one that may be is left for the end to find.
            for (int i = 0; i < MOST_CUPS && (i == 0 || takes(';')); i++) {
                readCup();
            }
            return finish(cups.size);
        }

        /** How many parts the tape tells, or a fault; it is empty then. */
        int readParts() {
            begin();
            parts.empty();
            for (int i = 0; i < MOST_PARTS && (i == 0 || takes(';')); i++) {
                readPart();
            }
            return finish(parts.size);
        }

        private void begin() {
            place = 0;
            fault = NO_FAULT;
        }

        private int finish(int found) {
            if (next() != END) {
                faultAt(place);
            }
            size = 0;
            return fault == NO_FAULT ? found : FAULT - fault;
        }

        private void readCup() {
            int x = signedDigit();
            int y = signedDigit();
            int wide = digit();
            int spike = takes('s') ? 1 : 0;
            int worth = takes(':') ? number(0, MOST_WORTH) : 1;
            addCup(cups, x, y, wide, worth, spike);
        }

        private void readPart() {
            int steps = number(1, MOST_PART_STEPS);
            int u = signedDigit();
            int v = signedDigit();
            addPart(parts, steps, u, v);
        }

        private int next() {
            while (place < size && bytes[place] == ' ') {
                place++;
            }
            return place < size ? bytes[place] : END;
        }

        private void faultAt(int where) {
            if (fault == NO_FAULT) {
                fault = where;
            }
        }

        private boolean takes(int b) {
            if (fault != NO_FAULT || next() != b) {
                return false;
            }
            place++;
            return true;
        }

        private int signedDigit() {
            if (takes('-')) {
                return -digit();
            }
            if (!takes('+')) {
                faultAt(place);
            }
            return digit();
        }

        private int digit() {
            int b = next();
            if (fault != NO_FAULT || !isIn(b, '0', '9')) {
                faultAt(place);
                return 0;
            }
            place++;
            return b - '0';
        }

        private int number(int least, int most) {
            next();
            int first = place;
            int value = digit();
            while (fault == NO_FAULT && place < size && isIn(bytes[place], '0', '9')) {
                value = Math.min(value * 10 + bytes[place] - '0', TOO_MUCH);
                place++;
            }
            if (!isIn(value, least, most)) {
                faultAt(first);
            }
            return value;
        }
    }

    /** Sheets: each is nothing, or a row of a lane. */
    private static final class Sheets {
        private static final int NOTHING = -1;

        private final int[] lanes;
        private final int[] sizes;
        private final int[][] items;

        Sheets() {
            lanes = new int[ALL_SHEETS];
            sizes = new int[ALL_SHEETS];
            items = new int[ALL_SHEETS][MOST_ITEMS];
            for (int sheet = 0; sheet < ALL_SHEETS; sheet++) {
                sizes[sheet] = NOTHING;
            }
        }

        boolean isNothing(int sheet) {
            return sizes[sheet] == NOTHING;
        }

        void makeRow(int sheet, int lane, int n) {
            lanes[sheet] = lane;
            sizes[sheet] = n;
            Arrays.fill(items[sheet], 0);
        }

        int letGo(int sheet) {
            int had = sizes[sheet];
            sizes[sheet] = NOTHING;
            return had;
        }

        /** Why n items from i on can't be taken of a sheet as a row of a lane, or FINE. */
        int refusalOf(int sheet, int lane, int i, int n) {
            if (isNothing(sheet)) {
                return NULL;
            }
            if (lanes[sheet] != lane) {
                return CAST;
            }
            return fits(sheet, i, n) ? FINE : INDEX;
        }

        boolean fits(int sheet, int i, int n) {
            return i >= 0 && n >= 0 && i <= sizes[sheet] && n <= sizes[sheet] - i;
        }

        int get(int sheet, int i) {
            return fits(sheet, i, 1) ? items[sheet][i] : 0;
        }

        void put(int sheet, int i, int v) {
            if (fits(sheet, i, 1)) {
                items[sheet][i] = cutTo(lanes[sheet], v);
            }
        }

        private static int cutTo(int lane, int v) {
            switch (lane) {
                case 0: return (byte) v;
                case 1: return (short) v;
                default: return v;
            }
        }
    }
}
