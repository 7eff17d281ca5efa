import java.util.List;

/**
 * Every refusal that the document names: its answer, which of several comes first, and that it changes nothing. Each
 * one is asked twice of a new object; then settings, cups, parts, tricks (by what they bring in some times), films on
 * the sheets, their sizes and lanes, the tape and the image are read, and must be those of a twin that was not asked.
 */
public final class RefusalTest {
    private static final int FAR = Integer.MAX_VALUE;
    private static final int LOW = Integer.MIN_VALUE;
    private static final int BAD = -1, NOT = -2, FULL = -3, NONE = -4, NULL = -11, CAST = -12, INDEX = -13, SIZE = -14;
    /** A toy of 60 bytes, so that the tape is full. */
    private static final String LONG_TOY = "+1+23s:45;  -1-20;  +9+99:07;  -9-93                        ";

    private interface Call {
        int on(BallInCup b);
    }

    private interface Maker {
        BallInCup make();
    }

    private static int promise = 0;
    private static int asked = 0;
    private static int wrong = 0;
    private static String untouched = "";
    private static Maker maker = BallInCup::new;

    public static void main(String[] args) {
        ofAFullOne();
        ofOneWithNoPart();
        ofOneWithNoCup();
        ofANewOne();
        ofSmallOnes();
        faults();
        System.out.println(asked + " refusals, " + wrong + " not as due");
        if (wrong != 0 || asked == 0) {
            System.exit(1);
        }
    }

    // ---- objects

    private static void typed(BallInCup b, String text) {
        for (int i = 0; i < text.length(); i++) {
            b.type(text.charAt(i), 1);
        }
    }

    /** One with an image, four cups, six parts, eight tricks, three sheets and a tape. */
    private static BallInCup full(String tape) {
        BallInCup b = new BallInCup();
        b.set(0, 17);
        b.set(1, 3);
        b.set(2, 2);
        b.cup(1, 2, 3, 4, true);
        b.part(5, -6, 7);
        b.trick(8, 9, 10, 2);
        b.image();
        b.set(0, 10);
        b.set(1, 1);
        b.set(2, 6);
        b.cup(0, 0, 2, 7, false);
        b.cup(-3, 5, 9, 99, false);
        b.cup(9, 9, 0, 0, true);
        b.still();
        b.part(1, 0, 9);
        for (int i = 1; i < 6; i++) {
            b.part(i, 0, 0);
            b.trick(16 - i, i, 3 * i, i);
        }
        b.trick(0, 60, 99, 9);
        b.trick(16, 7, 99, 1);
        b.sheet(0, 0, 24);
        b.film(0, 0, 0, 12);
        b.sheet(1, 1, 7);
        b.film(1, 1, 1, 3);
        b.sheet(2, 2, 0);
        typed(b, tape);
        return b;
    }

    private static BallInCup withNoPart() {
        BallInCup b = full("+1+2");
        b.still();
        return b;
    }

    private static BallInCup withNoCup() {
        BallInCup b = new BallInCup();
        b.part(1, 0, 9);
        return b;
    }

    /** One cup in which none ends, one part, one trick; in step 99 the hand goes down by 2, the ball by 1. */
    private static BallInCup small() {
        BallInCup b = new BallInCup();
        b.cup(9, 9, 0, 0, false);
        for (int i = 0; i < 5; i++) {
            b.part(i < 4 ? 20 : 19, 0, 0);
        }
        b.part(1, 0, -2);
        b.trick(1, 2, 3, 4);
        b.sheet(3, 2, 2);
        return b;
    }

    // ---- what can be read of an object

    private static void readSetup(BallInCup b, StringBuilder s) {
        int[] free = {10, 1, 0};
        for (int what = 0; what < 3; what++) {
            int was = b.set(what, free[what]);
            s.append(was).append(' ').append(b.set(what, was)).append(' ');
        }
        for (int what = 0; what < 4; what++) {
            s.append(b.count(what)).append(' ');
        }
        for (int cup = 0; cup < b.count(0); cup++) {
            for (int what = 0; what < 5; what++) {
                s.append(b.told(cup, what)).append(' ');
            }
        }
        for (int part = 0; part < b.count(1); part++) {
            for (int what = 0; what < 3; what++) {
                s.append(b.pull(part, what)).append(' ');
            }
        }
        for (int trick = 0; trick < b.count(3); trick++) {
            s.append(b.row(trick, 1)).append(' ').append(b.most(180, trick)).append(' ');
            s.append(b.most(13, trick)).append(' ');
        }
        s.append(b.most(180, -1)).append(' ').append(b.most(40, -1)).append(' ').append(b.most(5, -1)).append("| ");
    }

    private static void readSheets(BallInCup b, StringBuilder s) {
        s.append(b.filmed(0, 0, 0, 12, 0)).append(' ').append(b.filmed(1, 1, 1, 3, 0)).append(' ');
        for (int sheet = 0; sheet < 4; sheet++) {
            for (int lane = 0; lane < 3; lane++) {
                s.append(b.film(sheet, lane, -1, 1)).append(' ');
            }
            s.append(b.drop(sheet)).append(' ');
        }
    }

    private static String read(BallInCup b) {
        StringBuilder s = new StringBuilder();
        readSetup(b, s);
        readSheets(b, s);
        s.append("| ").append(b.type(' ', 1)).append(' ').append(b.toy()).append(' ');
        readSetup(b, s);
        s.append(b.restore()).append(' ');
        readSetup(b, s);
        return s.toString();
    }

    // ---- refusals

    private static void of(Maker one) {
        maker = one;
        untouched = read(one.make());
    }

    private static void fail(String name, String what) {
        wrong++;
        System.out.println("promise " + promise + ", " + name + ": " + what);
    }

    private static void refused(String name, int want, Call call) {
        asked++;
        BallInCup b = maker.make();
        int first = call.on(b);
        int second = call.on(b);
        if (first != want || second != want) {
            fail(name, "answered " + first + ", then " + second + ", due is " + want);
        }
        String touched = read(b);
        if (!touched.equals(untouched)) {
            fail(name, "changed\n  " + untouched + "\n  into\n  " + touched);
        }
    }

    private static void ofAFullOne() {
        of(() -> full(LONG_TOY));
        theToyOfAFullOne();
        theTryOfAFullOne();
        theGridOfAFullOne();
        theSizesOfAFullOne();
        theFilmsOfAFullOne();
        theSheetsOfAFullOne();
    }

    private static void theToyOfAFullOne() {
        promise = 2;
        refused("what -1", BAD, b -> b.set(-1, 10));
        refused("what 3", BAD, b -> b.set(3, 10));
        refused("CORD 9", BAD, b -> b.set(0, 9));
        refused("CORD 61", BAD, b -> b.set(0, 61));
        refused("WEIGHT 0", BAD, b -> b.set(1, 0));
        refused("WEIGHT 5", BAD, b -> b.set(1, 5));
        refused("SOFT -1", BAD, b -> b.set(2, -1));
        refused("SOFT 21", BAD, b -> b.set(2, 21));
        promise = 3;
        refused("a fifth CUP", FULL, b -> b.cup(0, 0, 0, 0, false));
        refused("x -10 ahead of FULL", BAD, b -> b.cup(-10, 0, 0, 0, false));
        refused("x 10 ahead of FULL", BAD, b -> b.cup(10, 0, 0, 0, false));
        refused("y -10 ahead of FULL", BAD, b -> b.cup(0, -10, 0, 0, false));
        refused("y 10 ahead of FULL", BAD, b -> b.cup(0, 10, 0, 0, false));
        refused("WIDE -1 ahead of FULL", BAD, b -> b.cup(0, 0, -1, 0, false));
        refused("WIDE 10 ahead of FULL", BAD, b -> b.cup(0, 0, 10, 0, false));
        refused("WORTH -1 ahead of FULL", BAD, b -> b.cup(0, 0, 0, -1, false));
        refused("WORTH 100 ahead of FULL", BAD, b -> b.cup(0, 0, 0, 100, false));
        promise = 4;
        refused("CUP -1", -100001, b -> b.told(-1, 0));
        refused("CUP 4", -100001, b -> b.told(4, 0));
        refused("what -1", -100001, b -> b.told(0, -1));
        refused("what 5", -100001, b -> b.told(0, 5));
        promise = 5;
        refused("a seventh PART", FULL, b -> b.part(1, 0, 0));
        refused("STEPS 0 ahead of FULL", BAD, b -> b.part(0, 0, 0));
        refused("STEPS 21 ahead of FULL", BAD, b -> b.part(21, 0, 0));
        refused("u -10 ahead of FULL", BAD, b -> b.part(1, -10, 0));
        refused("u 10 ahead of FULL", BAD, b -> b.part(1, 10, 0));
        refused("v -10 ahead of FULL", BAD, b -> b.part(1, 0, -10));
        refused("v 10 ahead of FULL", BAD, b -> b.part(1, 0, 10));
        promise = 6;
        refused("PART -1", -100001, b -> b.pull(-1, 0));
        refused("PART 6", -100001, b -> b.pull(6, 0));
        refused("what -1", -100001, b -> b.pull(0, -1));
        refused("what 3", -100001, b -> b.pull(0, 3));
        promise = 8;
        refused("a byte more than 60", FULL, b -> b.type('+', 1));
        refused("8 bytes more than 60", FULL, b -> b.type(0x2b2b2b2b2b2b2b2bL, 8));
        refused("n 0 ahead of FULL", BAD, b -> b.type('+', 0));
        refused("n 9 ahead of FULL", BAD, b -> b.type('+', 9));
        refused("a byte 31 ahead of FULL", BAD, b -> b.type(31, 1));
        refused("a byte 127 ahead of FULL", BAD, b -> b.type(127, 1));
        refused("a highest byte 31 ahead of FULL", BAD, b -> b.type(31 << 8 | '+', 2));
    }

    private static void theTryOfAFullOne() {
        promise = 11;
        refused("STEP -1", -100001, b -> b.at(-1, 0));
        refused("STEP 100", -100001, b -> b.at(100, 0));
        refused("what -1", -100001, b -> b.at(0, -1));
        refused("what 9", -100001, b -> b.at(0, 9));
        promise = 12;
        refused("what -1", BAD, b -> b.end(-1));
        refused("what 4", BAD, b -> b.end(4));
        promise = 13;
        refused("what -1", BAD, b -> b.count(-1));
        refused("what 4", BAD, b -> b.count(4));
    }

    private static void theGridOfAFullOne() {
        promise = 14;
        refused("u -5", BAD, b -> b.ends(-5, 0));
        refused("u 5", BAD, b -> b.ends(5, 0));
        refused("v -1", BAD, b -> b.ends(0, -1));
        refused("v 10", BAD, b -> b.ends(0, 10));
        refused("none", NONE, b -> b.ends(0, 0));
        promise = 15;
        refused("CUP -1", BAD, b -> b.cells(-1, 0));
        refused("CUP 4", BAD, b -> b.cells(4, 0));
        refused("what -1", BAD, b -> b.cells(0, -1));
        refused("what 3", BAD, b -> b.cells(0, 3));
        promise = 16;
        refused("CUP -1", -100001, b -> b.middle(-1, 0));
        refused("CUP 4", -100001, b -> b.middle(4, 0));
        refused("what -1", -100001, b -> b.middle(0, -1));
        refused("what 3", -100001, b -> b.middle(0, 3));
        refused("none ends in it", -100004, b -> b.middle(3, 0));
        refused("what 3 ahead of NONE", -100001, b -> b.middle(3, 3));
        promise = 17;
        refused("CUP -1", BAD, b -> b.mended(-1, 0));
        refused("CUP 4", BAD, b -> b.mended(4, 0));
        refused("STEP -1", BAD, b -> b.mended(0, -1));
        refused("STEP 100", BAD, b -> b.mended(0, 100));
        promise = 18;
        refused("CUP -1", BAD, b -> b.odds(-1));
        refused("CUP 4", BAD, b -> b.odds(4));
    }

    private static void theSizesOfAFullOne() {
        promise = 20;
        refused("a ninth TRICK", FULL, b -> b.trick(1, 1, 1, 1));
        refused("ODDS -1 ahead of FULL", BAD, b -> b.trick(-1, 1, 1, 1));
        refused("ODDS 17 ahead of FULL", BAD, b -> b.trick(17, 1, 1, 1));
        refused("SECONDS 0 ahead of FULL", BAD, b -> b.trick(1, 0, 1, 1));
        refused("SECONDS 61 ahead of FULL", BAD, b -> b.trick(1, 61, 1, 1));
        refused("WORTH -1 ahead of FULL", BAD, b -> b.trick(1, 1, -1, 1));
        refused("WORTH 100 ahead of FULL", BAD, b -> b.trick(1, 1, 100, 1));
        refused("MAY 0 ahead of FULL", BAD, b -> b.trick(1, 1, 1, 0));
        refused("MAY 10 ahead of FULL", BAD, b -> b.trick(1, 1, 1, 10));
        promise = 21;
        refused("time -1", BAD, b -> b.most(-1, -1));
        refused("time 181", BAD, b -> b.most(181, -1));
        refused("TRICK -2", BAD, b -> b.most(0, -2));
        refused("TRICK 8", BAD, b -> b.most(0, 8));
        promise = 22;
        refused("TRICK -1", BAD, b -> b.row(-1, 1));
        refused("TRICK 8", BAD, b -> b.row(8, 1));
        refused("n 0", BAD, b -> b.row(0, 0));
        refused("n 100", BAD, b -> b.row(0, 100));
        promise = 24;
        refused("CUP -1", BAD, b -> b.cord(-1, 0));
        refused("CUP 4", BAD, b -> b.cord(4, 0));
        refused("what -1", BAD, b -> b.cord(0, -1));
        refused("what 2", BAD, b -> b.cord(0, 2));
        promise = 25;
        refused("STEP -1", BAD, b -> b.down(-1, 0));
        refused("STEP 100", BAD, b -> b.down(100, 0));
        refused("pace -1", BAD, b -> b.down(0, -1));
        refused("pace 100", BAD, b -> b.down(0, 100));
    }

    /** Sheet 0 has 24 bytes, sheet 1 has 7 shorts, sheet 2 an empty row of ints, sheet 3 is nothing. */
    private static void theFilmsOfAFullOne() {
        promise = 26;
        refused("SHEET -1", -100001, b -> b.filmed(-1, 0, 0, 1, 0));
        refused("SHEET 4", -100001, b -> b.filmed(4, 0, 0, 1, 0));
        refused("LANE -1", -100001, b -> b.filmed(0, -1, 0, 1, 0));
        refused("LANE 3", -100001, b -> b.filmed(0, 3, 0, 1, 0));
        refused("n 0", -100001, b -> b.filmed(0, 0, 0, 0, 0));
        refused("n 13", -100001, b -> b.filmed(0, 0, 0, 13, 0));
        refused("what -1", -100001, b -> b.filmed(0, 0, 0, 1, -1));
        refused("what 3", -100001, b -> b.filmed(0, 0, 0, 1, 3));
        refused("nothing", -100011, b -> b.filmed(3, 0, 0, 1, 0));
        refused("another LANE", -100012, b -> b.filmed(1, 2, 1, 3, 0));
        refused("i -1", -100013, b -> b.filmed(1, 1, -1, 1, 0));
        refused("i one too far", -100013, b -> b.filmed(1, 1, 2, 3, 0));
        refused("of an empty row", -100013, b -> b.filmed(2, 2, 0, 1, 0));
        refused("none show it", -100004, b -> b.filmed(1, 1, 0, 3, 1));
        refused("none show it", -100004, b -> b.filmed(1, 1, 0, 3, 2));
        refused("BAD ahead of NULL", -100001, b -> b.filmed(3, 0, 0, 0, 0));
        refused("BAD ahead of CAST", -100001, b -> b.filmed(1, 2, 0, 13, 0));
        refused("BAD ahead of INDEX", -100001, b -> b.filmed(1, 1, -1, 1, 3));
        refused("NULL ahead of INDEX", -100011, b -> b.filmed(3, 0, -1, 1, 0));
        refused("CAST ahead of INDEX", -100012, b -> b.filmed(1, 0, -1, 1, 0));
        promise = 29;
        refused("SHEET -1", BAD, b -> b.film(-1, 0, 0, 1));
        refused("SHEET 4", BAD, b -> b.film(4, 0, 0, 1));
        refused("LANE -1", BAD, b -> b.film(0, -1, 0, 1));
        refused("LANE 3", BAD, b -> b.film(0, 3, 0, 1));
        refused("n 0", BAD, b -> b.film(0, 0, 0, 0));
        refused("n 13", BAD, b -> b.film(0, 0, 0, 13));
        refused("nothing", NULL, b -> b.film(3, 0, 0, 1));
        refused("another LANE", CAST, b -> b.film(1, 2, 0, 1));
        refused("i -1", INDEX, b -> b.film(1, 1, -1, 1));
        refused("i one too far", INDEX, b -> b.film(1, 1, 2, 3));
        refused("i one too far, from 0 on none of it comes", INDEX, b -> b.film(1, 1, 0, 4));
        refused("of an empty row", INDEX, b -> b.film(2, 2, 0, 1));
        refused("BAD ahead of NULL", BAD, b -> b.film(3, 0, 0, 0));
        refused("BAD ahead of CAST", BAD, b -> b.film(1, 2, 0, 13));
        refused("BAD ahead of INDEX", BAD, b -> b.film(1, 1, -1, 13));
        refused("NULL ahead of INDEX", NULL, b -> b.film(3, 0, -1, 1));
        refused("CAST ahead of INDEX", CAST, b -> b.film(1, 0, -1, 1));
    }

    private static void theSheetsOfAFullOne() {
        promise = 30;
        refused("SHEET -1", BAD, b -> b.sheet(-1, 0, 1));
        refused("SHEET 4", BAD, b -> b.sheet(4, 0, 1));
        refused("LANE -1", BAD, b -> b.sheet(0, -1, 1));
        refused("LANE 3", BAD, b -> b.sheet(0, 3, 1));
        refused("n 25", BAD, b -> b.sheet(0, 0, 25));
        refused("n -1", SIZE, b -> b.sheet(0, 0, -1));
        refused("n -1 for nothing", SIZE, b -> b.sheet(3, 0, -1));
        refused("SHEET 4 ahead of SIZE", BAD, b -> b.sheet(4, 0, -1));
        refused("LANE 3 ahead of SIZE", BAD, b -> b.sheet(0, 3, -1));
        promise = 31;
        refused("SHEET -1", BAD, b -> b.drop(-1));
        refused("SHEET 4", BAD, b -> b.drop(4));
        refused("nothing", NULL, b -> b.drop(3));
        promise = 32;
        refused("SHEET -1", BAD, b -> b.item(-1, 0, 0, 0));
        refused("SHEET 4", BAD, b -> b.item(4, 0, 0, 0));
        refused("LANE -1", BAD, b -> b.item(0, -1, 0, 0));
        refused("LANE 3", BAD, b -> b.item(0, 3, 0, 0));
        refused("nothing", NULL, b -> b.item(3, 0, 0, 0));
        refused("another LANE", CAST, b -> b.item(1, 2, 1, 99));
        refused("i -1", INDEX, b -> b.item(1, 1, -1, 0));
        refused("i one too far", INDEX, b -> b.item(1, 1, 7, 0));
        refused("of an empty row", INDEX, b -> b.item(2, 2, 0, 0));
        refused("BAD ahead of NULL", BAD, b -> b.item(3, 3, 0, 0));
        refused("NULL ahead of INDEX", NULL, b -> b.item(3, 0, -1, 0));
        refused("CAST ahead of INDEX", CAST, b -> b.item(1, 0, -1, 0));
        promise = 33;
        refused("SHEET -1", BAD, b -> b.copy(-1, 0, 0, 0, 1));
        refused("SHEET 4", BAD, b -> b.copy(4, 0, 0, 0, 1));
        refused("to SHEET -1", BAD, b -> b.copy(0, 0, -1, 0, 1));
        refused("to SHEET 4", BAD, b -> b.copy(0, 0, 4, 0, 1));
        refused("nothing", NULL, b -> b.copy(3, 0, 0, 0, 1));
        refused("to nothing", NULL, b -> b.copy(0, 0, 3, 0, 1));
        refused("nothing to nothing", NULL, b -> b.copy(3, 0, 3, 0, 0));
        refused("of unlike LANES", CAST, b -> b.copy(0, 0, 1, 0, 1));
        refused("of unlike LANES, none", CAST, b -> b.copy(0, 0, 2, 0, 0));
        refused("i -1", INDEX, b -> b.copy(0, -1, 0, 1, 1));
        refused("j -1", INDEX, b -> b.copy(0, 1, 0, -1, 1));
        refused("n -1", INDEX, b -> b.copy(0, 1, 0, 2, -1));
        refused("i and n one too far", INDEX, b -> b.copy(0, 2, 0, 0, 23));
        refused("j and n one too far", INDEX, b -> b.copy(0, 0, 0, 2, 23));
        refused("i 25, none", INDEX, b -> b.copy(0, 25, 0, 0, 0));
        refused("j 25, none", INDEX, b -> b.copy(0, 0, 0, 25, 0));
        refused("far", INDEX, b -> b.copy(0, FAR, 0, FAR, FAR));
        refused("low", INDEX, b -> b.copy(0, LOW, 0, LOW, LOW));
        refused("BAD ahead of NULL", BAD, b -> b.copy(3, 0, 4, 0, 1));
        refused("NULL ahead of INDEX", NULL, b -> b.copy(3, -1, 0, -1, -1));
        refused("CAST ahead of INDEX", CAST, b -> b.copy(0, -1, 1, -1, -1));
    }

    private static void ofOneWithNoPart() {
        of(RefusalTest::withNoPart);
        promise = 6;
        refused("PART 0", -100001, b -> b.pull(0, 0));
        promise = 14;
        refused("no PART", NOT, b -> b.ends(0, 0));
        refused("BAD ahead of NOT", BAD, b -> b.ends(0, 10));
        promise = 15;
        refused("no PART", NOT, b -> b.cells(0, 0));
        refused("CUP 4 ahead of NOT", BAD, b -> b.cells(4, 0));
        refused("what 3 ahead of NOT", BAD, b -> b.cells(0, 3));
        promise = 16;
        refused("no PART", -100002, b -> b.middle(0, 0));
        refused("CUP 4 ahead of NOT", -100001, b -> b.middle(4, 0));
        refused("what 3 ahead of NOT", -100001, b -> b.middle(0, 3));
        promise = 17;
        refused("no PART", NOT, b -> b.mended(0, 0));
        refused("CUP 4 ahead of NOT", BAD, b -> b.mended(4, 0));
        refused("STEP 100 ahead of NOT", BAD, b -> b.mended(0, 100));
        promise = 18;
        refused("no PART", NOT, b -> b.odds(0));
        refused("CUP 4 ahead of NOT", BAD, b -> b.odds(4));
        promise = 19;
        refused("no PART", NOT, b -> b.which());
        promise = 24;
        refused("no PART", NOT, b -> b.cord(0, 0));
        refused("CUP 4 ahead of NOT", BAD, b -> b.cord(4, 0));
        refused("what 2 ahead of NOT", BAD, b -> b.cord(0, 2));
        promise = 26;
        refused("no PART", -100002, b -> b.filmed(1, 1, 1, 3, 0));
        refused("NOT ahead of NONE", -100002, b -> b.filmed(1, 1, 0, 3, 1));
        refused("BAD ahead of NOT", -100001, b -> b.filmed(1, 1, 0, 3, 3));
        refused("NULL ahead of NOT", -100011, b -> b.filmed(3, 1, 0, 3, 0));
        refused("CAST ahead of NOT", -100012, b -> b.filmed(1, 0, 0, 3, 0));
        refused("INDEX ahead of NOT", -100013, b -> b.filmed(1, 1, 0, 4, 0));
    }

    private static void ofOneWithNoCup() {
        of(RefusalTest::withNoCup);
        promise = 4;
        refused("CUP 0", -100001, b -> b.told(0, 0));
        promise = 12;
        refused("no CUP", NONE, b -> b.end(0));
        refused("no CUP", NONE, b -> b.end(1));
        promise = 14;
        refused("no CUP", NONE, b -> b.ends(0, 9));
        promise = 15;
        refused("CUP 0", BAD, b -> b.cells(0, 0));
        promise = 16;
        refused("CUP 0", -100001, b -> b.middle(0, 0));
        promise = 17;
        refused("CUP 0", BAD, b -> b.mended(0, 0));
        promise = 18;
        refused("CUP 0", BAD, b -> b.odds(0));
        promise = 19;
        refused("no CUPS", NONE, b -> b.which());
        promise = 21;
        refused("TRICK 0", BAD, b -> b.most(0, 0));
        promise = 22;
        refused("TRICK 0", BAD, b -> b.row(0, 1));
        promise = 24;
        refused("CUP 0", BAD, b -> b.cord(0, 0));
        promise = 28;
        refused("no image", NONE, b -> b.restore());
    }

    private static void ofANewOne() {
        of(BallInCup::new);
        promise = 9;
        refused("an empty tape", -20, b -> b.toy());
        promise = 10;
        refused("an empty tape", -20, b -> b.pulls());
        promise = 18;
        refused("CUP 0 ahead of NOT", BAD, b -> b.odds(0));
        promise = 19;
        refused("NOT ahead of NONE", NOT, b -> b.which());
        promise = 28;
        refused("no image", NONE, b -> b.restore());
        promise = 31;
        for (int sheet = 0; sheet < 4; sheet++) {
            int each = sheet;
            refused("nothing", NULL, b -> b.drop(each));
        }
    }

    /** Wrong numbers where there is room, so that no FULL stands behind BAD. */
    private static void ofSmallOnes() {
        of(RefusalTest::small);
        promise = 3;
        int[][] cups = {{-10, 0, 0, 0}, {10, 0, 0, 0}, {0, -10, 0, 0}, {0, 10, 0, 0}, {0, 0, -1, 0}, {0, 0, 10, 0},
            {0, 0, 0, -1}, {0, 0, 0, 100}, {LOW, 0, 0, 0}, {0, FAR, 0, 0}, {0, 0, LOW, 0}, {0, 0, 0, FAR}};
        for (int[] c : cups) {
            refused("a number is not as told", BAD, b -> b.cup(c[0], c[1], c[2], c[3], true));
        }
        promise = 20;
        int[][] tricks = {{-1, 1, 0, 1}, {17, 1, 0, 1}, {0, 0, 0, 1}, {0, 61, 0, 1}, {0, 1, -1, 1}, {0, 1, 100, 1},
            {0, 1, 0, 0}, {0, 1, 0, 10}, {LOW, 1, 0, 1}, {0, FAR, 0, 1}, {0, 1, LOW, 1}, {0, 1, 0, FAR}};
        for (int[] t : tricks) {
            refused("a number is not as told", BAD, b -> b.trick(t[0], t[1], t[2], t[3]));
        }
        promise = 8;
        refused("a byte 31", BAD, b -> b.type(31, 1));
        refused("a highest byte 127 ahead of good ones", BAD, b -> b.type(127 << 8 | '+', 2));
        refused("a lowest byte 127 behind good ones", BAD, b -> b.type('+' << 8 | 127, 2));
        promise = 16;
        refused("none ends in it", -100004, b -> b.middle(0, 2));
        promise = 25;
        refused("in none", NONE, b -> b.down(99, 0));
        promise = 26;
        refused("none show it", -100004, b -> b.filmed(3, 2, 0, 1, 1));
        of(RefusalTest::withNoCup);
        promise = 5;
        int[][] parts = {{0, 0, 0}, {21, 0, 0}, {1, -10, 0}, {1, 10, 0}, {1, 0, -10}, {1, 0, 10}, {LOW, 0, 0},
            {FAR, 0, 0}, {1, LOW, 0}, {1, 0, FAR}};
        for (int[] p : parts) {
            refused("a number is not as told", BAD, b -> b.part(p[0], p[1], p[2]));
        }
    }

    // ---- faults

    /** "THE TAPE, which is empty then (by a FAULT, too)": that alone is changed. */
    private static void faults() {
        String empty = read(full(""));
        promise = 9;
        for (String text : List.of("x", "+", "+1+2", "+1+23:100", "+1+23;", "+1+23;+4+56;+7+89;x",
            "+1+23;+4+56;+7+89;-1-23;", "+1+23:4 5", "12+3+4")) {
            faultDue(empty, text, full(text), b -> b.toy());
        }
        promise = 10;
        for (String text : List.of("x", "1", "0+1+1", "21+1+1", "1+2+3;", "1+2+3;4+5+6;x", "1 2+3+4", "+1+23",
            "1+2+3;1+2+3;1+2+3;1+2+3;1+2+3;1+2+3;")) {
            faultDue(empty, text, full(text), b -> b.pulls());
        }
    }

    private static void faultDue(String empty, String text, BallInCup b, Call call) {
        asked++;
        int answer = call.on(b);
        if (answer > -20 || answer < -20 - text.length()) {
            fail("'" + text + "'", "answered " + answer);
        }
        String now = read(b);
        if (!now.equals(empty)) {
            fail("'" + text + "'", "changed\n  " + empty + "\n  into\n  " + now);
        }
    }
}
