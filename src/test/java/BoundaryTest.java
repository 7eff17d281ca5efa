import java.lang.reflect.InvocationTargetException;
import java.lang.reflect.Method;
import java.util.Map;
import java.util.TreeMap;

/**
 * One case for each sentence of the document that names a boundary: the least and the most that is taken, one beyond,
 * empty, full, cut, wrapped round. Refusals, and that they change nothing, are in RefusalTest.
 *
 * A case is a method whose name begins with p and the promise's number, or with t for a sentence of the terms; main
 * finds them by name, so none is left out. The numbers are worked out by hand, as the comments tell.
 */
public final class BoundaryTest {
    private static final int FAR = Integer.MAX_VALUE;
    private static final int LOW = Integer.MIN_VALUE;
    private static final int BAD = BallInCup.BAD;
    private static final int NOT = BallInCup.NOT;
    private static final int FULL = BallInCup.FULL;
    private static final int NONE = BallInCup.NONE;
    private static final int INDEX = BallInCup.INDEX;

    private static String open = "";
    private static int asked = 0;
    private static int wrong = 0;

    public static void main(String[] args) throws Exception {
        Map<String, Method> cases = new TreeMap<>();
        for (Method m : BoundaryTest.class.getDeclaredMethods()) {
            if (m.getName().matches("[pt][0-9]{2}.*")) {
                cases.put(m.getName(), m);
            }
        }
        for (Method m : cases.values()) {
            run(m);
        }
        System.out.println(cases.size() + " cases, " + asked + " answers, " + wrong + " not as due");
        if (wrong != 0 || cases.isEmpty()) {
            System.exit(1);
        }
    }

    private static void run(Method m) throws Exception {
        open = m.getName();
        int before = asked;
        try {
            m.invoke(null);
        } catch (InvocationTargetException e) {
            due("threw " + e.getCause(), 1, 0);
        }
        if (asked == before) {
            due("asked nothing", 1, 0);
        }
    }

    private static void due(String call, int got, int want) {
        asked++;
        if (got != want) {
            wrong++;
            System.out.println(open + ": " + call + " answered " + got + ", due is " + want);
        }
    }

    // ---- toys

    private static long word(String piece) {
        long w = 0;
        for (int i = 0; i < piece.length(); i++) {
            w = w << 8 | piece.charAt(i);
        }
        return w;
    }

    private static int typed(BallInCup b, String text) {
        int answer = 0;
        for (int i = 0; i < text.length(); i += 8) {
            String piece = text.substring(i, Math.min(i + 8, text.length()));
            answer = b.type(word(piece), piece.length());
        }
        return answer;
    }

    private static int toyOf(String text) {
        BallInCup b = new BallInCup();
        typed(b, text);
        return b.toy();
    }

    private static int pullOf(String text) {
        BallInCup b = new BallInCup();
        typed(b, text);
        return b.pulls();
    }

    /** A toy of weight 1 with a cord, cups and a pull as texts. */
    private static BallInCup made(int cord, String cups, String pull) {
        BallInCup b = new BallInCup();
        b.set(0, cord);
        typed(b, cups);
        if (!cups.isEmpty() && b.toy() < 0) {
            due("the cups of this test", -1, 0);
        }
        typed(b, pull);
        if (!pull.isEmpty() && b.pulls() < 0) {
            due("the pull of this test", -1, 0);
        }
        return b;
    }

    private static void place(BallInCup b, int step, int x, int y, int paceX, int paceY) {
        due("x behind step " + step, b.at(step, 0), x);
        due("y behind step " + step, b.at(step, 1), y);
        due("pace by x behind step " + step, b.at(step, 2), paceX);
        due("pace by y behind step " + step, b.at(step, 3), paceY);
    }

    private static void ended(BallInCup b, int cup, int step, int rims) {
        due("the cup", b.end(0), cup);
        due("the step", b.end(1), step);
        due("rims", b.end(2), rims);
    }

    /**
     * Cord 10, one step up by 9. From the hand the ball is at -10, -2, 5, 10, 10, 9, 7, 4, 0, -5, -10 behind steps 0 to
     * 10, with a pace of 9, 8, 7, 5, 0, -1, -2, -3, -4, -5, -5; the cord is taut in steps 0, 3, 4 and from 10 on.
     */
    private static BallInCup toss(String cups) {
        return made(10, cups, "1+0+9");
    }

    /** The same, but in step 9, in which the ball falls from 0 to -5, the hand goes by u. */
    private static BallInCup tossAside(int u, int cupX) {
        BallInCup b = made(10, "", "1+0+9;8+0+0");
        b.part(1, u, 0);
        b.cup(cupX, 0, 0, 1, false);
        return b;
    }

    /**
     * Cord 10; in step 4 the hand goes aside by 9: the ball, at -9, 14 from it, is held at -5, 8 (root 16), with a pace
     * of 4, -2 and a SPIN of (4 - 9) by 3: -1. Then the hand goes along by 4: from it the ball stays at -5 by x and is
     * at 5, 1, -4 by y behind steps 5, 6, 7, with TURN 15, 14, 13. With side -1 all is the other way round.
     */
    private static BallInCup spun(int side, int stepsAlong) {
        BallInCup b = made(10, "", "1+0+9;3+0+0");
        b.part(1, 9 * side, 0);
        b.part(stepsAlong, 4 * side, 0);
        return b;
    }

    /**
     * Cord 40, one step of a pull of the grid, whose ball never comes up to the hand and is at rest again behind step
     * 40 (t02AlikeAtRest looks at that); so with step 41 all 90 do the same: up by 9, then down by 9 three times. From
     * the hand the ball is at -40, -23, -7, 8, 13, 17, 20, 22, 23, 23, 22, 20, 17, 13, 8, 2, -5 behind steps 41 to 57,
     * slack in all but step 41.
     */
    private static BallInCup alike(String cups, String down) {
        return made(40, cups, "1+0+0;20+0+0;20+0+0;1+0+9;" + down);
    }

    /**
     * Cord 36, one step. Only pulls with v 9 come up to the hand: behind steps 8, 9, 10 the ball is at 0, 0, -1 by y.
     * By x it is at 0, for u 0; at 10, 9, 8, 7 behind step 10 for u 1, 2, 3, 4, with a pace of 1 (step 0 holds it at 0,
     * -1, -2, -3 from the hand); the other way round for u below 0.
     */
    private static BallInCup level(String cups) {
        return made(36, cups, "1+3+3");
    }

    /**
     * Cord 20, slack: by step 3 the hand is 36 lower. For u 9 and v -9 the ball is at -9 by x from the hand, at 6, 1,
     * -5 by y behind steps 3, 4, 5; u more by 1 brings -10 by x, v less by 1 brings 7, 2, -4.
     */
    private static BallInCup wandering(String cups) {
        return made(20, cups, "1+9-9;3+0-9");
    }

    // ---- 1 the toy

    /** "no CUP, no PULL", and all else that may be there is not. */
    private static void p01NothingIsThere() {
        BallInCup b = new BallInCup();
        for (int what = 0; what < 4; what++) {
            due("count(" + what + ")", b.count(what), 0);
        }
        due("told(0, 0)", b.told(0, 0), -100001);
        due("pull(0, 0)", b.pull(0, 0), -100001);
        due("still()", b.still(), 0);
        due("clear()", b.clear(), 0);
        due("restore()", b.restore(), NONE);
        due("toy()", b.toy(), -20);
        due("pulls()", b.pulls(), -20);
        for (int sheet = 0; sheet < 4; sheet++) {
            due("drop(" + sheet + ")", b.drop(sheet), BallInCup.NULL);
        }
    }

    /** "CORD (10 .. 60; 30 at first), WEIGHT (1 .. 4; 1), SOFT (0 .. 20; 6)". */
    private static void p01FirstSettings() {
        BallInCup b = new BallInCup();
        due("the ball hangs 30 below", b.at(99, 1), -30);
        due("set(0, 30)", b.set(0, 30), 30);
        due("set(1, 1)", b.set(1, 1), 1);
        due("set(2, 6)", b.set(2, 6), 6);
    }

    /** "An object is used for at most 512 calls". */
    private static void p01TheLastCallOf512() {
        BallInCup b = new BallInCup();
        for (int call = 1; call < 512; call++) {
            due("part and still by turns", call % 2 == 1 ? b.part(1, 0, 9) : b.still() - 1, 0);
        }
        due("call 512", b.still(), 1);
    }

    /** "CORD (10 .. 60". */
    private static void p02CordIs10To60() {
        BallInCup b = new BallInCup();
        due("set(0, 9)", b.set(0, 9), BAD);
        due("set(0, 61)", b.set(0, 61), BAD);
        due("set(0, 10)", b.set(0, 10), 30);
        due("the ball hangs", b.at(0, 1), -10);
        due("set(0, 60)", b.set(0, 60), 10);
        due("the ball hangs", b.at(0, 1), -60);
        due("set(0, 60)", b.set(0, 60), 60);
    }

    /** "WEIGHT (1 .. 4". */
    private static void p02WeightIs1To4() {
        BallInCup b = made(30, "", "1+0-9");
        due("set(1, 0)", b.set(1, 0), BAD);
        due("set(1, 5)", b.set(1, 5), BAD);
        due("set(1, 1)", b.set(1, 1), 1);
        place(b, 0, 0, -31, 0, -1);
        due("set(1, 4)", b.set(1, 4), 1);
        place(b, 0, 0, -34, 0, -4);
        due("set(1, 4)", b.set(1, 4), 4);
    }

    /** "SOFT (0 .. 20". */
    private static void p02SoftIs0To20() {
        BallInCup b = tossAside(1, -1);
        due("set(2, -1)", b.set(2, -1), BAD);
        due("set(2, 21)", b.set(2, 21), BAD);
        due("set(2, 0)", b.set(2, 0), 6);
        due("1 is too fast for 0", b.end(0), NONE);
        due("set(2, 20)", b.set(2, 20), 0);
        due("1 is not too fast for 20", b.end(0), 0);
        due("set(2, 20)", b.set(2, 20), 20);
    }

    /** "0 CORD, 1 WEIGHT, 2 SOFT". */
    private static void p02WhatIs0To2() {
        BallInCup b = new BallInCup();
        due("set(-1, 10)", b.set(-1, 10), BAD);
        due("set(3, 10)", b.set(3, 10), BAD);
        due("set(LOW, 10)", b.set(LOW, 10), BAD);
        due("set(FAR, 10)", b.set(FAR, 10), BAD);
        due("set(0, 10)", b.set(0, 10), 30);
        due("set(1, 3)", b.set(1, 3), 1);
        due("set(2, 10)", b.set(2, 10), 6);
    }

    /** "at x, y from the hand (-9 .. 9 each)". */
    private static void p03XIsMinus9To9() {
        BallInCup b = new BallInCup();
        due("x -10", b.cup(-10, 0, 0, 0, false), BAD);
        due("x 10", b.cup(10, 0, 0, 0, false), BAD);
        due("x -9", b.cup(-9, 0, 0, 0, false), 0);
        due("x 9", b.cup(9, 0, 0, 0, false), 1);
        due("told(0, 0)", b.told(0, 0), -9);
        due("told(1, 0)", b.told(1, 0), 9);
    }

    /** "at x, y from the hand (-9 .. 9 each)". */
    private static void p03YIsMinus9To9() {
        BallInCup b = new BallInCup();
        due("y -10", b.cup(0, -10, 0, 0, false), BAD);
        due("y 10", b.cup(0, 10, 0, 0, false), BAD);
        due("y -9", b.cup(0, -9, 0, 0, false), 0);
        due("y 9", b.cup(0, 9, 0, 0, false), 1);
        due("told(0, 1)", b.told(0, 1), -9);
        due("told(1, 1)", b.told(1, 1), 9);
    }

    /** "so WIDE (0 .. 9)". */
    private static void p03WideIs0To9() {
        BallInCup b = new BallInCup();
        due("wide -1", b.cup(0, 0, -1, 0, false), BAD);
        due("wide 10", b.cup(0, 0, 10, 0, false), BAD);
        due("wide 0", b.cup(0, 0, 0, 0, false), 0);
        due("wide 9", b.cup(0, 0, 9, 0, false), 1);
        due("told(0, 2)", b.told(0, 2), 0);
        due("told(1, 2)", b.told(1, 2), 9);
    }

    /** "with a WORTH (0 .. 99)". */
    private static void p03WorthIs0To99() {
        BallInCup b = new BallInCup();
        due("worth -1", b.cup(0, 0, 0, -1, false), BAD);
        due("worth 100", b.cup(0, 0, 0, 100, false), BAD);
        due("worth 0", b.cup(0, 0, 0, 0, false), 0);
        due("worth 99", b.cup(0, 0, 0, 99, false), 1);
        due("told(0, 3)", b.told(0, 3), 0);
        due("told(1, 3)", b.told(1, 3), 99);
    }

    /** "FULL: 4". */
    private static void p03FourCups() {
        BallInCup b = new BallInCup();
        for (int cup = 0; cup < 4; cup++) {
            due("cup " + cup, b.cup(cup, -cup, cup, cup, false), cup);
        }
        due("a fifth", b.cup(5, 5, 5, 5, false), FULL);
        due("count(0)", b.count(0), 4);
        due("the last stays", b.told(3, 0), 3);
    }

    /** "Of a CUP: 0 x, .. 4 whether it is a SPIKE (1, 0)". */
    private static void p04WhatIs0To4() {
        BallInCup b = new BallInCup();
        b.cup(-1, -2, 3, 4, true);
        b.cup(-1, -2, 3, 4, false);
        int[] told = {-1, -2, 3, 4, 1};
        for (int what = 0; what < 5; what++) {
            due("told(0, " + what + ")", b.told(0, what), told[what]);
        }
        due("told(1, 4)", b.told(1, 4), 0);
        due("told(0, -1)", b.told(0, -1), -100001);
        due("told(0, 5)", b.told(0, 5), -100001);
    }

    /** There is no such CUP. */
    private static void p04CupIsOneThatIsThere() {
        BallInCup b = new BallInCup();
        due("of none", b.told(0, 0), -100001);
        b.cup(1, 0, 0, 0, false);
        due("told(0, 0)", b.told(0, 0), 1);
        due("told(1, 0)", b.told(1, 0), -100001);
        due("told(-1, 0)", b.told(-1, 0), -100001);
        for (int cup = 1; cup < 4; cup++) {
            b.cup(2, 0, 0, 0, false);
        }
        due("told(3, 0)", b.told(3, 0), 2);
        due("told(4, 0)", b.told(4, 0), -100001);
    }

    /** "so many STEPS (1 .. 20)". */
    private static void p05StepsAre1To20() {
        BallInCup b = new BallInCup();
        due("0 steps", b.part(0, 1, 0), BAD);
        due("21 steps", b.part(21, 1, 0), BAD);
        due("1 step", b.part(1, 1, 0), 0);
        due("20 steps", b.part(20, 0, 1), 1);
        due("pull(0, 0)", b.pull(0, 0), 1);
        due("pull(1, 0)", b.pull(1, 0), 20);
        due("count(2)", b.count(2), 21);
    }

    /** "the hand goes by u, v (-9 .. 9 each)". */
    private static void p05UIsMinus9To9() {
        BallInCup b = new BallInCup();
        due("u -10", b.part(1, -10, 0), BAD);
        due("u 10", b.part(1, 10, 0), BAD);
        due("u -9", b.part(1, -9, 0), 0);
        due("u 9", b.part(2, 9, 0), 1);
        due("pull(0, 1)", b.pull(0, 1), -9);
        due("pull(1, 1)", b.pull(1, 1), 9);
        due("the hand", b.at(0, 6), -9);
        due("the hand", b.at(2, 6), 9);
    }

    /** "the hand goes by u, v (-9 .. 9 each)". */
    private static void p05VIsMinus9To9() {
        BallInCup b = new BallInCup();
        due("v -10", b.part(1, 0, -10), BAD);
        due("v 10", b.part(1, 0, 10), BAD);
        due("v -9", b.part(1, 0, -9), 0);
        due("v 9", b.part(2, 0, 9), 1);
        due("pull(0, 2)", b.pull(0, 2), -9);
        due("pull(1, 2)", b.pull(1, 2), 9);
        due("the hand", b.at(0, 7), -9);
        due("the hand", b.at(2, 7), 9);
    }

    /** "FULL: 6". */
    private static void p05SixParts() {
        BallInCup b = new BallInCup();
        for (int part = 0; part < 6; part++) {
            due("part " + part, b.part(part + 1, part, -part), part);
        }
        due("a seventh", b.part(9, 9, 9), FULL);
        due("count(1)", b.count(1), 6);
        due("the last stays", b.pull(5, 0), 6);
    }

    /** "Of a PART: 0 STEPS, 1 u, 2 v", one that is there. */
    private static void p06PartAndWhat() {
        BallInCup b = new BallInCup();
        due("of none", b.pull(0, 0), -100001);
        b.part(3, -4, 5);
        due("pull(0, 0)", b.pull(0, 0), 3);
        due("pull(0, 1)", b.pull(0, 1), -4);
        due("pull(0, 2)", b.pull(0, 2), 5);
        due("pull(0, -1)", b.pull(0, -1), -100001);
        due("pull(0, 3)", b.pull(0, 3), -100001);
        due("pull(1, 0)", b.pull(1, 0), -100001);
        due("pull(-1, 0)", b.pull(-1, 0), -100001);
        for (int part = 1; part < 6; part++) {
            b.part(1, 0, 0);
        }
        due("pull(5, 0)", b.pull(5, 0), 1);
        due("pull(6, 0)", b.pull(6, 0), -100001);
    }

    /** "All PARTS go: how many": none, one, all six, and six may come again. */
    private static void p07NoneOneSix() {
        BallInCup b = new BallInCup();
        due("none", b.still(), 0);
        b.part(1, 0, 9);
        due("one", b.still(), 1);
        due("none", b.still(), 0);
        for (int part = 0; part < 6; part++) {
            b.part(1, 1, 1);
        }
        due("six", b.still(), 6);
        due("count(1)", b.count(1), 0);
        due("count(2)", b.count(2), 0);
        due("pull(0, 0)", b.pull(0, 0), -100001);
        due("the hand stands", b.at(0, 6), 0);
        for (int part = 0; part < 6; part++) {
            due("they come again", b.part(1, 1, 1), part);
        }
    }

    // ---- 1 the tape and texts

    /** "The n lowest bytes (1 .. 8) of w, of these the highest first". */
    private static void p08BytesAre1To8() {
        BallInCup b = new BallInCup();
        due("n 0", b.type(word("++++++++"), 0), BAD);
        due("n 9", b.type(word("++++++++"), 9), BAD);
        due("n LOW", b.type(word("++++++++"), LOW), BAD);
        due("n FAR", b.type(word("++++++++"), FAR), BAD);
        due("n 1", b.type(word(" "), 1), 1);
        due("n 8", b.type(word("+1-23s:4"), 8), 9);
        due("toy()", b.toy(), 1);
        due("told(0, 1)", b.told(0, 1), -2);
        due("told(0, 3)", b.told(0, 3), 4);
    }

    /** Bytes of w above the n lowest are not looked at. */
    private static void p08HigherBytesAreFree() {
        BallInCup b = new BallInCup();
        due("n 1", b.type(0xffffffffffffff00L | '+', 1), 1);
        due("n 7", b.type(0xff00000000000000L | word("1-23   "), 7), 8);
        due("toy()", b.toy(), 1);
    }

    /** "a byte not 32 .. 126". */
    private static void p08BytesOf32To126() {
        for (int at = 0; at < 8; at++) {
            long others = word("        ") & ~(255L << 8 * at);
            due("a byte of 31", new BallInCup().type(others | 31L << 8 * at, 8), BAD);
            due("a byte of 32", new BallInCup().type(others | 32L << 8 * at, 8), 8);
            due("a byte of 126", new BallInCup().type(others | 126L << 8 * at, 8), 8);
            due("a byte of 127", new BallInCup().type(others | 127L << 8 * at, 8), BAD);
            due("a byte of 0", new BallInCup().type(others, 8), BAD);
            due("a byte of 128", new BallInCup().type(others | 128L << 8 * at, 8), BAD);
            due("a byte of 255", new BallInCup().type(others | 255L << 8 * at, 8), BAD);
        }
    }

    /** "FULL: 60". */
    private static void p08SixtyBytes() {
        BallInCup b = new BallInCup();
        for (int i = 1; i <= 7; i++) {
            due("8 bytes more", b.type(word("        "), 8), 8 * i);
        }
        due("5 where 4 are left", b.type(word("+1-23"), 5), FULL);
        due("4 where 4 are left", b.type(word("+1-2"), 4), 60);
        due("1 where none is left", b.type(word("3"), 1), FULL);
        due("none of what was refused came", b.toy(), -80);
        due("it is empty then", b.type(word(" "), 1), 1);
    }

    /** "1 to 4 CUPS with ; between". */
    private static void p09OneToFourCups() {
        due("one", toyOf("+1+23"), 1);
        due("four", toyOf("+1+23;+1+23;+1+23;+1+23"), 4);
        due("none: the end", toyOf(""), -20);
        due("none: the end behind blanks", toyOf("   "), -23);
        due("a fifth: its ;", toyOf("+1+23;+1+23;+1+23;+1+23;+1+23"), -43);
        due("a fifth, blanks ahead of its ;", toyOf("+1+23;+1+23;+1+23;+1+23  ;+1+23"), -45);
        due("nothing behind a ;", toyOf("+1+23;"), -26);
        due("nothing ahead of a ;", toyOf(";+1+23"), -20);
        due("nothing between", toyOf("+1+23;;+1+23"), -26);
    }

    /** "x and y as digits with + or - ahead (each), a digit (WIDE)". */
    private static void p09DigitsWithSigns() {
        BallInCup b = made(30, "-9+90;+0-09", "");
        int[] told = {-9, 9, 0, 0, 0, 9};
        for (int i = 0; i < 6; i++) {
            due("told(" + i / 3 + ", " + i % 3 + ")", b.told(i / 3, i % 3), told[i]);
        }
        due("no sign of x", toyOf("1+23"), -20);
        due("no sign of y", toyOf("+123"), -22);
        due("a sign of WIDE", toyOf("+1+2+3"), -24);
        due("two signs", toyOf("+-1+23"), -21);
        due("two digits of x", toyOf("+10+23"), -22);
        due("two digits of WIDE", toyOf("+1+210"), -25);
        due("/ is no digit", toyOf("+/+23"), -21);
        due(": is no digit", toyOf("+:+23"), -21);
        due(", is no sign", toyOf(",1+23"), -20);
        due(". is no sign", toyOf(".1+23"), -20);
    }

    /** The end, wherever it comes too soon: "the end: how many bytes there are". */
    private static void p09TheEndTooSoon() {
        String text = "+1-23:";
        for (int n = 0; n <= 6; n++) {
            due("the first " + n + " bytes", toyOf(text.substring(0, n)), n == 5 ? 1 : -20 - n);
            String blanks = text.substring(0, n) + "  ";
            due("the first " + n + " bytes, two blanks", toyOf(blanks), n == 5 ? 1 : -22 - n);
        }
    }

    /** "perhaps s (a SPIKE), perhaps : and a number". */
    private static void p09SpikeAndWorthPerhaps() {
        BallInCup b = made(30, "+1+23;+1+23s;+1+23:7;+1+23s:7", "");
        int[] worth = {1, 1, 7, 7};
        int[] spike = {0, 1, 0, 1};
        for (int cup = 0; cup < 4; cup++) {
            due("WORTH", b.told(cup, 3), worth[cup]);
            due("SPIKE", b.told(cup, 4), spike[cup]);
        }
        due("s twice", toyOf("+1+23ss"), -26);
        due("S", toyOf("+1+23S"), -25);
        due("s behind WORTH", toyOf("+1+23:7s"), -27);
        due("WORTH twice", toyOf("+1+23:7:7"), -27);
        due("s alone", toyOf("s"), -20);
    }

    /** "WORTH 0 .. 99; 1, if not told"; "of a number that may not be its first byte". */
    private static void p09WorthIs0To99() {
        BallInCup b = made(30, "+1+23:0;+1+23:99;+1+23:0099;+1+23", "");
        int[] worth = {0, 99, 99, 1};
        for (int cup = 0; cup < 4; cup++) {
            due("told(" + cup + ", 3)", b.told(cup, 3), worth[cup]);
        }
        due("100", toyOf("+1+23:100"), -26);
        due("100 behind blanks", toyOf("+1+23:  100"), -28);
        due("0s ahead of 100", toyOf("+1+23:00100"), -26);
        due("100, then a wrong byte", toyOf("+1+23:100x"), -26);
        due("2 to the 32nd", toyOf("+1+23:4294967296"), -26);
        due("2 to the 64th and 5", toyOf("+1+23:18446744073709551621"), -26);
        due("no number", toyOf("+1+23:;+1+23"), -26);
        due("a sign", toyOf("+1+23:+7"), -26);
    }

    /** "bytes 32 count for nothing, but end a number". */
    private static void p09Blanks() {
        due("blanks wherever they may be", toyOf("  + 1  - 2 3  s  :  4  ;  +1+23  "), 2);
        due("a number ends", toyOf("+1+23:4 5"), -28);
        due("a number ends", toyOf("+1+23:4  5"), -29);
        due("the place behind blanks", toyOf("+1  x"), -24);
        due("other bytes count", toyOf("+1!+23"), -22);
    }

    /** A number at the end of THE TAPE: of a full one; and what was on it ahead counts for nothing. */
    private static void p09ANumberAtTheEnd() {
        BallInCup b = new BallInCup();
        typed(b, "                                                   +1+23s:45");
        due("60 bytes", b.type(word("6"), 1), FULL);
        due("toy()", b.toy(), 1);
        due("WORTH", b.told(0, 3), 45);
        typed(b, "                                                   +1+23s:4");
        due("59 bytes", b.toy(), 1);
        due("WORTH", b.told(0, 3), 4);
        String blanks = "                             ";
        due("STEPS at the end of 60 bytes", pullOf(blanks + blanks + "20"), -80);
    }

    /** "THE TAPE, which is empty then (by a FAULT, too)"; "in place of those told"; "A FAULT (those told stay)". */
    private static void p09TheTapeIsEmptyThen() {
        BallInCup b = made(30, "+1+23:4;+2+20", "");
        due("empty", b.toy(), -20);
        due("those told stay", b.count(0), 2);
        typed(b, "-3+34;x");
        due("a fault in the second", b.toy(), -26);
        due("those told stay", b.told(0, 0), 1);
        due("empty", b.toy(), -20);
        typed(b, "-3+34");
        due("one", b.toy(), 1);
        due("in place of both", b.count(0), 1);
        due("in place of both", b.told(0, 0), -3);
        due("in place of both", b.told(1, 0), -100001);
        due("empty", b.toy(), -20);
    }

    /** "1 to 6 PARTS with ; between". */
    private static void p10OneToSixParts() {
        due("one", pullOf("1+0+0"), 1);
        due("six", pullOf("1+0+0;1+0+0;1+0+0;1+0+0;1+0+0;1+0+0"), 6);
        due("none: the end", pullOf(""), -20);
        due("none: the end behind blanks", pullOf("  "), -22);
        due("a seventh: its ;", pullOf("1+0+0;1+0+0;1+0+0;1+0+0;1+0+0;1+0+0;1+0+0"), -55);
        due("nothing behind a ;", pullOf("1+0+0;"), -26);
        due("nothing ahead of a ;", pullOf(";1+0+0"), -20);
        due("nothing between", pullOf("1+0+0;;1+0+0"), -26);
    }

    /** "a number (STEPS)", 1 .. 20; "a number may have 0s ahead; of a number that may not be its first byte". */
    private static void p10StepsAre1To20() {
        BallInCup b = made(30, "", "1+0+0;20+0+0;0020+0+0;01+0+0");
        int[] steps = {1, 20, 20, 1};
        for (int part = 0; part < 4; part++) {
            due("pull(" + part + ", 0)", b.pull(part, 0), steps[part]);
        }
        due("0", pullOf("0+0+0"), -20);
        due("000", pullOf(" 000+0+0"), -21);
        due("21", pullOf("21+0+0"), -20);
        due("0s ahead of 21", pullOf("  0021+0+0"), -22);
        due("21, then a wrong byte", pullOf("21x"), -20);
        due("2 to the 32nd and 1", pullOf("4294967297+0+0"), -20);
        due("2 to the 64th and 1", pullOf("18446744073709551617+0+0"), -20);
        due("21 in the second", pullOf("1+0+0; 21+0+0"), -27);
    }

    /** "then u, v as digits with + or - ahead". */
    private static void p10DigitsWithSigns() {
        BallInCup b = made(30, "", "1-9+9;1+9-9;1-0+0");
        int[] told = {-9, 9, 9, -9, 0, 0};
        for (int i = 0; i < 6; i++) {
            due("pull(" + i / 2 + ", " + (1 + i % 2) + ")", b.pull(i / 2, 1 + i % 2), told[i]);
        }
        due("a sign of STEPS", pullOf("+1+0+0"), -20);
        due("no sign of v", pullOf("1+00"), -23);
        due("two digits of v", pullOf("1+0+10"), -25);
        due("s", pullOf("1+0+0s"), -25);
        due("a fault behind a ;", pullOf("1+0+0;1+0x0"), -29);
    }

    /** The end, wherever it comes too soon. */
    private static void p10TheEndTooSoon() {
        String text = "12-3+4;";
        for (int n = 0; n <= 7; n++) {
            due("the first " + n + " bytes", pullOf(text.substring(0, n)), n == 6 ? 1 : -20 - n);
            due("and a blank", pullOf(text.substring(0, n) + " "), n == 6 ? 1 : -21 - n);
        }
    }

    /** "bytes 32 count for nothing, but end a number". */
    private static void p10Blanks() {
        due("blanks wherever they may be", pullOf("  12  - 3  +  4  ;  1+0+0  "), 2);
        due("a number ends", pullOf("1 2+0+0"), -22);
    }

    /** "THE TAPE, which is empty then (by a FAULT, too)"; "in place of the one told"; "the one told stays". */
    private static void p10TheTapeIsEmptyThen() {
        BallInCup b = made(30, "", "1+1+1;2+2+2");
        due("empty", b.pulls(), -20);
        due("the one told stays", b.count(2), 3);
        typed(b, "5+5+5;x");
        due("a fault in the second", b.pulls(), -26);
        due("the one told stays", b.pull(0, 0), 1);
        due("empty", b.pulls(), -20);
        typed(b, "7-7-7");
        due("one", b.pulls(), 1);
        due("in place of both", b.count(1), 1);
        due("in place of both", b.count(2), 7);
        due("empty", b.pulls(), -20);
    }

    // ---- 1 a try

    /** "Ahead of it the hand is at 0, 0, the ball at 0, CORD below it, with a pace of 0, 0, TURN 0, SPIN 0". */
    private static void t01AheadOfATry() {
        BallInCup b = made(30, "", "1+0-9");
        place(b, 0, 0, -31, 0, -1);
        due("TURN", b.at(0, 4), 0);
        due("SPIN", b.at(0, 5), 0);
        due("TURN is 0 more", b.at(1, 4), 0);
        // So it is whatever try was gone through ahead: this one ends with TURN 15, SPIN -1.
        BallInCup again = spun(1, 5);
        again.cup(-5, 6, 0, 1, false);
        due("TURN", again.at(99, 4), 15);
        again.still();
        again.part(1, 0, -1);
        place(again, 0, 0, -11, 0, -1);
        due("TURN", again.at(0, 4), 0);
        due("SPIN", again.at(0, 5), 0);
    }

    /** "u, v of this STEP (0, 0 behind the PULL)"; "Behind them the hand stands". */
    private static void t01TheHand() {
        BallInCup b = made(60, "", "2+3+4;1-5+6");
        int[] x = {3, 6, 1, 1};
        int[] y = {4, 8, 14, 14};
        for (int step = 0; step < 4; step++) {
            due("x behind step " + step, b.at(step, 6), x[step]);
            due("y behind step " + step, b.at(step, 7), y[step]);
        }
        due("x behind step 99", b.at(99, 6), 1);
        due("y behind step 99", b.at(99, 7), 14);
        due("no part: it stands", new BallInCup().at(99, 7), 0);
    }

    /** "A TRY has STEPS 0 .. 99": a PULL of 120 is cut. */
    private static void t01APullLongerThanATry() {
        BallInCup b = made(10, "", "20+9+0;20+9+0;20+9+0;20+9+0;19+9+0;20-9+0");
        due("behind step 98", b.at(98, 6), 891);
        due("behind step 99", b.at(99, 6), 882);
        due("count(2)", b.count(2), 119);
    }

    /** "A TRY has STEPS 0 .. 99": with step 99 it may end, behind it no more. */
    private static void t01TheLastStep() {
        // The toss begins with step 90, or 91; its ball is caught 9 steps later.
        BallInCup last = made(10, "+0+00", "20+0+0;20+0+0;20+0+0;20+0+0;10+0+0;1+0+9");
        ended(last, 0, 99, 0);
        due("taut", last.end(3), 93);
        due("y behind step 99", last.at(99, 1), 4);
        BallInCup late = made(10, "+0+00", "20+0+0;20+0+0;20+0+0;20+0+0;11+0+0;1+0+9");
        ended(late, NONE, NONE, 0);
        due("taut", late.end(3), 94);
        due("y behind step 99", late.at(99, 1), 9);
        ended(made(10, "+1+00", "20+0+0;20+0+0;20+0+0;20+0+0;10+0+0;1+0+9"), NONE, NONE, 1);
    }

    /** "if p p + q q is above CORD CORD, the cord is TAUT": 100 is not above 100, 101 is. */
    private static void t01TautFromOneAbove() {
        // The hand goes down by 1, the ball too: 0, -10 from it.
        BallInCup slack = made(10, "", "1+0-1");
        due("100: slack", slack.at(0, 8), 0);
        place(slack, 0, 0, -11, 0, -1);
        due("taut in all but step 0", slack.end(3), 99);
        // The hand goes by 1, -1: the ball is at -1, -10 from it, root 10: it stays where it is.
        BallInCup taut = made(10, "", "1+1-1");
        due("101: taut", taut.at(0, 8), 1);
        place(taut, 0, 0, -11, 0, -1);
        due("-9, -5 from the hand: 106", made(10, "", "1+9-6").at(0, 8), 1);
        due("-8, -6 from the hand: 100", made(10, "", "1+8-5").at(0, 8), 0);
    }

    /** "D is the whole root (cut) of that sum". */
    private static void t01TheRootIsCut() {
        // -6, -9 from the hand: 117, root 10 (and not 11): nothing is changed.
        place(made(10, "", "1+6-2"), 0, 0, -11, 0, -1);
        // 0, -11 from the hand: 121, root 11.
        place(made(10, "", "1+0+0"), 0, 0, -10, 0, 0);
        // 0, -20 and 0, -69: 400, 4761.
        place(made(10, "", "1+0+9"), 0, 0, -1, 0, 9);
        BallInCup heavy = made(60, "", "1+0+5");
        heavy.set(1, 4);
        place(heavy, 0, 0, -55, 0, 5);
    }

    /** "P is p CORD by D, Q is q CORD by D", cut towards 0, below 0 too. */
    private static void t01PlacesAreCut() {
        // -1, -11 from the hand: 122, root 11: P is -10 by 11, Q -110 by 11: 0, -10.
        place(made(10, "", "1+1+0"), 0, 1, -10, 1, 0);
        place(made(10, "", "1-1+0"), 0, -1, -10, -1, 0);
        // -5, -11: 146, root 12: P is -50 by 12, Q -110 by 12: -4, -9.
        place(made(10, "", "1+5+0"), 0, 1, -9, 1, 1);
        place(made(10, "", "1-5+0"), 0, -1, -9, -1, 1);
        // Down by 9 three times, aside in the last: the ball is at -5, 11: -4, 9; its pace was 0, -3.
        place(made(10, "", "2+0-9;1+5-9"), 2, 1, -18, 1, -5);
    }

    /** "SPIN is (its pace by x less u) by 3", cut towards 0, by the pace that it has then. */
    private static void t01SpinIsCut() {
        // By u 2 and 3 the ball is at -2, -10 and -3, -10: 104, 109, root 10: its pace stays 0.
        due("-2 by 3", made(10, "", "1+2-1").at(0, 5), 0);
        due("-3 by 3", made(10, "", "1+3-1").at(0, 5), -1);
        due("2 by 3", made(10, "", "1-2-1").at(0, 5), 0);
        due("3 by 3", made(10, "", "1-3-1").at(0, 5), 1);
        // -5, -11: its pace becomes 1, so -4 by 3.
        due("-4 by 3", made(10, "", "1+5+0").at(0, 5), -1);
        due("4 by 3", made(10, "", "1-5+0").at(0, 5), 1);
    }

    /** "TURN is SPIN more, as a remainder by 16 (0 .. 15)"; "TURN is 0" where the cord is taut. */
    private static void t01TurnWrapsRound() {
        // 9, -5 from the hand: 106, root 10: SPIN is 9 by 3. Then the hand goes down with the ball, slack until step 6.
        BallInCup up = made(10, "", "1-9-6;1+9-4;5+0-4");
        BallInCup down = made(10, "", "1+9-6;1-9-4;5+0-4");
        int[] turns = {0, 3, 6, 9, 12, 15, 2, 0};
        for (int step = 0; step < 8; step++) {
            due("TURN behind step " + step, up.at(step, 4), turns[step]);
            due("the other way round", down.at(step, 4), (16 - turns[step]) % 16);
            due("slack in steps 1 to 6", up.at(step, 8), step == 0 || step == 7 ? 1 : 0);
        }
        due("SPIN", up.at(6, 5), 3);
        due("SPIN", down.at(6, 5), -3);
        due("SPIN, taut again", up.at(7, 5), 0);
    }

    /** "it was at the CUP's y or above behind the STEP ahead". */
    private static void t01AtTheCupOrAbove() {
        // Behind step 8 the ball is at 0, behind step 9 at -5.
        ended(toss("+0+00"), 0, 9, 0);
        // It comes up to 6, and no higher.
        ended(made(20, "-9+60", "1+9-9;3+0-9"), 0, 4, 0);
        ended(made(20, "-9+70", "1+9-9;3+0-9"), NONE, NONE, 0);
    }

    /** "is below that now". */
    private static void t01BelowThatNow() {
        // Behind step 8 the ball is at 0.
        ended(toss("+0+10"), 0, 8, 0);
        ended(toss("+0+00"), 0, 9, 0);
        ended(toss("+0+40"), 0, 8, 0);
        ended(toss("+0+50"), 0, 7, 0);
        // On its way up it goes by, and is not met.
        ended(toss("+0-50"), 0, 10, 0);
    }

    /** "(ahead of STEP 0: CORD below it)": below every CUP, so that none is met in STEP 0. */
    private static void t01NoneIsMetInStep0() {
        BallInCup b = made(10, "+0-99", "");
        ended(b, NONE, NONE, 0);
        due("at rest", b.at(0, 3), 0);
        ended(made(10, "+0-99", "1+0-1"), NONE, NONE, 0);
    }

    /** "by x is no more than WIDE and 2 away from the CUP's x"; "If that is no more than WIDE". */
    private static void t01AwayByX() {
        for (int side = -1; side <= 1; side += 2) {
            for (int wide = 0; wide <= 6; wide++) {
                for (int more = 0; more <= 3; more++) {
                    BallInCup b = toss("");
                    b.cup(side * (wide + more), 0, wide, 1, false);
                    ended(b, more == 0 ? 0 : NONE, more == 0 ? 9 : NONE, more == 1 || more == 2 ? 1 : 0);
                }
            }
        }
        ended(toss("+9+09"), 0, 9, 0);
    }

    /** "It MEETS the first CUP, if any". */
    private static void t01TheFirstCup() {
        // In step 7 the ball goes from 7 to 4, so by 7, 6 and 5.
        due("the first of two", toss("+0+60;+0+70").end(0), 0);
        due("the first of two", toss("+0+70;+0+60").end(0), 0);
        due("the first that it meets", toss("+0+40;+0+50").end(0), 1);
        due("the fourth", toss("+9+00;+9+00;+9+00;+0+00").end(0), 3);
        ended(toss("+2+00;+0+00"), NONE, NONE, 1);
        ended(toss("+3+00;+0+00"), 1, 9, 0);
    }

    /** "its pace by x less u is no more than SOFT (as they are without sign)". */
    private static void t01Soft() {
        for (int side = -1; side <= 1; side += 2) {
            // The ball has no pace by x, the hand goes by u.
            ended(tossAside(6 * side, -6 * side), 0, 9, 0);
            ended(tossAside(7 * side, -7 * side), NONE, NONE, 1);
            BallInCup none = tossAside(0, 0);
            none.set(2, 0);
            ended(none, 0, 9, 0);
            BallInCup one = tossAside(side, -side);
            one.set(2, 0);
            ended(one, NONE, NONE, 1);
            // The ball has a pace of 4, the hand goes by -2 or -3; in step 7 it is at 1 or 2 from the hand.
            BallInCup six = spun(side, 2);
            six.part(1, -2 * side, 0);
            six.cup(side, 0, 0, 1, false);
            due("pace by x", six.at(7, 2), 4 * side);
            ended(six, 0, 7, 0);
            BallInCup seven = spun(side, 2);
            seven.part(1, -3 * side, 0);
            seven.cup(2 * side, 0, 0, 1, false);
            ended(seven, NONE, NONE, 1);
        }
    }

    /** "the CUP is no SPIKE or TURN is 15, 0 or 1". */
    private static void t01SpikeByTurn() {
        for (int side = -1; side <= 1; side += 2) {
            for (int y = 2; y <= 8; y++) {
                // From 8 to 5 in step 5, with TURN 15 or 1; from 5 to 1 in step 6, with TURN 14 or 2.
                int step = y >= 6 ? 5 : 6;
                BallInCup cup = spun(side, 5);
                cup.cup(-5 * side, y, 0, 1, false);
                due("TURN", cup.at(step, 4), side == 1 ? 20 - step : step - 4);
                ended(cup, 0, step, 0);
                BallInCup spike = spun(side, 5);
                spike.cup(-5 * side, y, 0, 1, true);
                due("caught with step 5", spike.end(1) == 5 ? 1 : 0, y >= 6 ? 1 : 0);
                due("pace by y, on the rim with step 6", spike.at(step, 3), y >= 6 ? -3 : 2);
            }
        }
        ended(toss("+0+00s"), 0, 9, 0);
        due("TURN 0", toss("+0+00s").at(9, 4), 0);
    }

    /** "its pace by y becomes half (cut) of what it is without sign". */
    private static void t01HalfOfThePace() {
        // In steps 6, 7, 8, 9, 10 the pace is -2, -3, -4, -5, -5.
        int[] cupY = {9, 7, 4, 0, -5};
        int[] half = {1, 1, 2, 2, 2};
        for (int i = 0; i < 5; i++) {
            BallInCup b = toss("");
            b.cup(1, cupY[i], 0, 1, false);
            due("pace behind step " + (6 + i), b.at(6 + i, 3), half[i]);
            due("it is where it was", b.at(6 + i, 1), toss("").at(6 + i, 1));
        }
        // The hand comes up by 9 from below: the ball's pace of 5 is up, and becomes 2.
        BallInCup up = made(10, "+1+00", "1+0+9;2+0+0;2+0+9");
        due("pace", up.at(4, 3), 2);
        due("without the cup", made(10, "", "1+0+9;2+0+0;2+0+9").at(4, 3), 5);
    }

    /** "behind a STEP (0 .. 99". */
    private static void p11StepsAre0To99() {
        BallInCup b = new BallInCup();
        due("at(-1, 1)", b.at(-1, 1), -100001);
        due("at(0, 1)", b.at(0, 1), -30);
        due("at(99, 1)", b.at(99, 1), -30);
        due("at(100, 1)", b.at(100, 1), -100001);
        due("at(LOW, 1)", b.at(LOW, 1), -100001);
        due("at(FAR, 1)", b.at(FAR, 1), -100001);
    }

    /** "the ball's x (0), .. whether the cord is TAUT (8; 1, 0)". */
    private static void p11WhatIs0To8() {
        // -5, -11 from the hand: held at -4, -9.
        BallInCup b = made(10, "", "1+5+0");
        int[] told = {1, -9, 1, 1, 0, -1, 5, 0, 1};
        for (int what = 0; what < 9; what++) {
            due("at(0, " + what + ")", b.at(0, what), told[what]);
        }
        due("at(0, -1)", b.at(0, -1), -100001);
        due("at(0, 9)", b.at(0, 9), -100001);
    }

    /** "as it was at its end, if it has ended ahead". */
    private static void p11AsItWasAtItsEnd() {
        BallInCup b = made(10, "-6+00", "1+0+9;8+0+0;1+6+0;20+9+9");
        for (int step = 9; step < 100; step += 10) {
            place(b, step, 0, 4, 0, -5);
            due("hand's x behind step " + step, b.at(step, 6), 6);
            due("hand's y behind step " + step, b.at(step, 7), 9);
            due("TAUT behind step " + step, b.at(step, 8), 0);
        }
        BallInCup spun = spun(1, 5);
        spun.cup(-5, 6, 0, 1, false);
        due("TURN", spun.at(99, 4), 15);
        due("SPIN", spun.at(99, 5), -1);
    }

    /** "the CUP (0; NONE), the STEP (1; NONE), how often on the RIM (2), in how many STEPS TAUT (3)". */
    private static void p12WhatIs0To3() {
        BallInCup b = toss("+9+90;+0+00");
        int[] told = {1, 9, 0, 3};
        for (int what = 0; what < 4; what++) {
            due("end(" + what + ")", b.end(what), told[what]);
        }
        due("end(-1)", b.end(-1), BAD);
        due("end(4)", b.end(4), BAD);
    }

    /** No CUP, none met, no PULL: NONE, 0 and all 100 steps. */
    private static void p12NoneAndAll() {
        ended(new BallInCup(), NONE, NONE, 0);
        due("all STEPS are taut", new BallInCup().end(3), 100);
        ended(toss(""), NONE, NONE, 0);
        ended(toss("+9+90"), NONE, NONE, 0);
        // Taut in steps 0, 3, 4 and 10 to 99.
        due("taut", toss("").end(3), 93);
        due("the step in which it is caught counts", toss("+0-50").end(3), 4);
    }

    /** "how often on the RIM": more than once. */
    private static void p12RimTwice() {
        // On the rim of cup 0 in step 8, then with a pace of 2; at 1, 1, 0 behind steps 9, 10, 11: below cup 1.
        BallInCup b = toss("+1+40;+1+10");
        place(b, 8, 0, 9, 0, 2);
        place(b, 9, 0, 10, 0, 1);
        due("twice", b.end(2), 2);
        due("from 1 to 0 in step 11", b.at(11, 3), 0);
    }

    /** "0 CUPS, 1 PARTS, 2 STEPS of the PULL, 3 TRICKS": empty and full. */
    private static void p13EmptyAndFull() {
        BallInCup b = new BallInCup();
        int[] most = {4, 6, 120, 8};
        for (int what = 0; what < 4; what++) {
            due("count(" + what + ")", b.count(what), 0);
        }
        for (int i = 0; i < 9; i++) {
            b.cup(0, 0, 0, 0, false);
            b.part(20, 0, 0);
            b.trick(0, 1, 0, 1);
        }
        for (int what = 0; what < 4; what++) {
            due("count(" + what + ")", b.count(what), most[what]);
        }
        due("count(-1)", b.count(-1), BAD);
        due("count(4)", b.count(4), BAD);
    }

    // ---- 2 the grid

    private static void heights(BallInCup b, int step, int x, int... y) {
        for (int i = 0; i < y.length; i++) {
            due("x from the hand, step " + (step + i), b.at(step + i, 0) - b.at(step + i, 6), x);
            due("y from the hand, step " + (step + i), b.at(step + i, 1) - b.at(step + i, 7), y[i]);
        }
    }

    /** The toys that the cases below use go as their comments say. */
    private static void t02ToysGoAsTold() {
        heights(toss(""), 0, 0, -10, -2, 5, 10, 10, 9, 7, 4, 0, -5, -10);
        heights(spun(1, 5), 4, -5, 8, 5, 1, -4);
        heights(spun(-1, 5), 4, 5, 8, 5, 1, -4);
        heights(alike("", "3+0-9"), 41, 0, -40, -23, -7, 8, 13, 17, 20, 22, 23, 23, 22, 20, 17, 13, 8, 2, -5);
        heights(alike("", "1-1-9;2-3-9"), 44, 7, 8, 13, 17, 20, 22, 23, 23, 22, 20, 17, 13, 8, 2, -5);
        heights(wandering(""), 0, -9, -12, -5, 1, 6, 1, -5);
        for (int u = -4; u <= 4; u++) {
            BallInCup level = made(36, "", "");
            level.part(1, u, 9);
            int away = u == 0 ? 0 : 11 - Math.abs(u);
            heights(level, 10, u < 0 ? -away : away, -1);
            due("y from the hand, step 9", level.at(9, 1) - level.at(9, 7), 0);
        }
    }

    /** What alike() rests on: each of the 90 hangs still again behind step 40, or 79, if it is so for 20 steps. */
    private static void t02AlikeAtRest() {
        for (int pull = 0; pull < 90; pull++) {
            for (int steps = 1; steps <= 20; steps += 19) {
                BallInCup b = made(40, "", "");
                b.part(steps, pull / 10 - 4, pull % 10);
                int step = steps == 1 ? 40 : 79;
                place(b, step, b.at(step, 6), b.at(step, 7) - 40, 0, 0);
                boolean isAbove = false;
                for (int i = 0; i <= step; i++) {
                    isAbove |= b.at(i, 1) >= b.at(i, 7);
                }
                due("it comes up to the hand", isAbove ? 1 : 0, 0);
            }
        }
    }

    /** "u (-4 .. 4)" and "v (0 .. 9) of PART 0". */
    private static void p14UAndVOfTheGrid() {
        BallInCup b = alike("+0+00", "3+0-9");
        int[] us = {-4, 4, -4, 4};
        int[] vs = {0, 0, 9, 9};
        for (int i = 0; i < 4; i++) {
            due("ends(" + us[i] + ", " + vs[i] + ")", b.ends(us[i], vs[i]), 0);
        }
        due("ends(-5, 0)", b.ends(-5, 0), BAD);
        due("ends(5, 0)", b.ends(5, 0), BAD);
        due("ends(0, -1)", b.ends(0, -1), BAD);
        due("ends(0, 10)", b.ends(0, 10), BAD);
        due("ends(LOW, 0)", b.ends(LOW, 0), BAD);
        due("ends(0, FAR)", b.ends(0, FAR), BAD);
    }

    /** "PULLS that are as told but for u and v of PART 0". */
    private static void p14AsToldButForPart0() {
        BallInCup b = made(10, "+0+00", "1-9-9");
        due("by u 0, v 9 it is the toss", b.ends(0, 9), 0);
        due("as told it is not", b.end(0), NONE);
        due("pull(0, 1)", b.pull(0, 1), -9);
        due("PART 2 stays: too fast", tossAside(7, -7).ends(0, 9), NONE);
        due("PART 2 stays: not too fast", tossAside(6, -6).ends(0, 9), 0);
    }

    /** "NOT: there is no PART; NONE". */
    private static void p14NotAndNone() {
        BallInCup b = toss("");
        due("no CUP", b.ends(0, 9), NONE);
        b.still();
        due("no PART", b.ends(0, 9), NOT);
        due("NONE in a CUP", toss("+9+90").ends(0, 9), NONE);
    }

    /** "CUPS 0 .. 3": the last of four is one that is there, for all calls that take a CUP. */
    private static void t02TheLastOfFourCups() {
        BallInCup b = alike("+9+90;+9+90;+9+90;-1+00", "3+0-9");
        due("told(3, 0)", b.told(3, 0), -1);
        due("cells(3, 0)", b.cells(3, 0), 0);
        due("middle(3, 0)", b.middle(3, 0), -100004);
        due("mended(3, 57)", b.mended(3, 57), 90);
        due("odds(3)", b.odds(3), 0);
        BallInCup c = alike("+9+90;+9+90;+9+90;+0+00", "3+0-9");
        due("end(0)", c.end(0), 3);
        due("ends(0, 0)", c.ends(0, 0), 3);
        due("cells(3, 0)", c.cells(3, 0), 90);
        due("middle(3, 2)", c.middle(3, 2), 4);
        due("odds(3)", c.odds(3), 16);
        due("which()", c.which(), 3);
        due("cord(3, 1)", c.cord(3, 1), 16);
    }

    /** "how many (0), CELLS (1), the most PULLS of a CELL (2)": none, all 90. */
    private static void p15NoneAndAll() {
        BallInCup none = alike("+0+00;+9+00", "3+0-9");
        for (int what = 0; what < 3; what++) {
            due("cells(1, " + what + ")", none.cells(1, what), 0);
        }
        due("how many", none.cells(0, 0), 90);
        due("CELLS", none.cells(0, 1), 1);
        due("the most", none.cells(0, 2), 90);
        due("cells(0, -1)", none.cells(0, -1), BAD);
        due("cells(0, 3)", none.cells(0, 3), BAD);
        due("cells(2, 0)", none.cells(2, 0), BAD);
        due("cells(-1, 0)", none.cells(-1, 0), BAD);
    }

    /** "next to one another (u or v 1 apart, the other one alike), by others too". */
    private static void p15NextToOneAnother() {
        // By x the ball is 0 away for u 0; 10, 9, 8, 7 for u 1 to 4, and so for u below 0.
        int[][] due = {{1, 1, 1}, {3, 3, 1}, {5, 3, 2}, {7, 3, 3}};
        for (int i = 0; i < 4; i++) {
            BallInCup b = level("");
            b.cup(0, 0, 6 + i, 1, false);
            for (int what = 0; what < 3; what++) {
                due("WIDE " + (6 + i) + ", cells(0, " + what + ")", b.cells(0, what), due[i][what]);
            }
        }
        // To the left of it all: 1, 0, 1, 2 away for u -1 to -4.
        BallInCup row = level("-9+02");
        due("a row by others too", row.cells(0, 0), 4);
        due("a row by others too", row.cells(0, 1), 1);
        due("a row by others too", row.cells(0, 2), 4);
    }

    private static void cellsDue(BallInCup b, String picture, int pulls, int cells, int largest) {
        same("the grid", picture(b), picture);
        for (int time = 0; time < 2; time++) {
            due("how many", b.cells(0, 0), pulls);
            due("CELLS", b.cells(0, 1), cells);
            due("the most", b.cells(0, 2), largest);
        }
    }

    /** "u or v 1 apart, the other one alike": on each side. */
    private static void p15OnEachSide() {
        cellsDue(made(34, "+7-38", "2+3+5"), "---------- ---------- ---------- ---------- ---------o ---------o"
            + " ---------- ---------- ----------", 2, 1, 2);
        cellsDue(made(19, "-1+61", "3-1+4"), "---------- ---------- ---------- ---------- --------oo ----------"
            + " ---------- ---------- ----------", 2, 1, 2);
        cellsDue(made(19, "-2-36", "4-1+2;4-4+5;4-3+5"), "---------- ---------- ---------- ---------- ----------"
            + " ---------o --------oo ---------- ----------", 3, 1, 3);
        cellsDue(made(16, "-3+55", "3-4+8"), "---------- ---------- ---------- -------o-o -------ooo ----------"
            + " ---------- ---------- ----------", 5, 1, 5);
    }

    /** The first PULL of the grid alone. */
    private static void p15TheFirstPullAlone() {
        BallInCup b = made(13, "-2+58", "2+0+7;2-2+7;3+1+9");
        b.set(1, 2);
        cellsDue(b, "o--------- ---------- ---------- ---------- ---------- ---------- ---------- ----------"
            + " ----------", 1, 1, 1);
        middleDue(b, -4, 0, 0);
    }

    /** Asked of one toy, then of another by the same object. */
    private static void p15OfOneToyThenOfAnother() {
        BallInCup b = alike("+0+00", "3+0-9");
        due("CELLS", b.cells(0, 1), 1);
        b.set(0, 36);
        typed(b, "+0+07");
        b.toy();
        typed(b, "1+3+3");
        b.pulls();
        due("how many", b.cells(0, 0), 3);
        due("CELLS", b.cells(0, 1), 3);
        due("the most", b.cells(0, 2), 1);
    }

    /** Not next to one another: u and v 1 apart; v 9 of one u and v 0 of the next. */
    private static void p15NotNextToOneAnother() {
        BallInCup corner = made(10, "-7+60", "4+0+5");
        corner.set(2, 7);
        cellsDue(corner, "---------- --------o- -------o-- ---------- ---------- ----------"
            + " ---------- ---------- ----------", 2, 2, 1);
        BallInCup round = made(28, "-8+95", "4-4+8;3+2+9");
        round.set(2, 2);
        cellsDue(round, "---------o o--------- ---------- ---------- ---------- ----------"
            + " ---------- ---------- ----------", 2, 2, 1);
        BallInCup back = made(15, "+2+93", "4+1+5;1+1+0;1+0+8");
        back.set(2, 9);
        cellsDue(back, "---------- ---------- ---------- ---------- o--------o oo-------- oo-------- ----------"
            + " ----------", 6, 2, 5);
    }

    /** The grid of cup 0 as ends() tells it. */
    private static String picture(BallInCup b) {
        StringBuilder picture = new StringBuilder();
        for (int u = -4; u <= 4; u++) {
            for (int v = 0; v <= 9; v++) {
                picture.append(b.ends(u, v) == 0 ? 'o' : '-');
            }
            picture.append(u < 4 ? " " : "");
        }
        return picture.toString();
    }

    private static void same(String what, String got, String want) {
        due(what + ": " + got, got.equals(want) ? 1 : 0, 1);
    }

    private static void middleDue(BallInCup b, int u, int v, int rings) {
        due("middle(0, 0)", b.middle(0, 0), u);
        due("middle(0, 1)", b.middle(0, 1), v);
        due("middle(0, 2)", b.middle(0, 2), rings);
    }

    /** "all PULLS no more than r apart by u and by v, and all of these in the GRID". */
    private static void p16AllOfTheseInTheGrid() {
        // All 90: 4 rings are in the grid round u 0, v 4 or 5 alone.
        middleDue(alike("+0+00", "3+0-9"), 0, 4, 4);
    }

    /** A PULL alone, a row of them: none has a whole ring; "of like ones the least u, then v". */
    private static void p16OfLikeOnesTheLeastU() {
        middleDue(level("+0+06"), 0, 9, 0);
        middleDue(level("+0+07"), -4, 9, 0);
        middleDue(level("-9+02"), -4, 9, 0);
        // u -1 and -3 are 1 away, u -2 is 0 away.
        middleDue(level("-9+00"), -2, 9, 0);
        middleDue(level("-9+01"), -3, 9, 0);
    }

    /** "of like ones the least u, then v": two of one u, and those of one ring. */
    private static void p16OfLikeOnesTheLeastV() {
        BallInCup ring = made(18, "-4-24;+3-22", "2-3+5;1+2+9");
        ring.set(2, 7);
        same("the grid", picture(ring), "---------- oooooooooo oooooooooo -ooooooooo ---------- ---------- ----------"
            + " ---------- ----------");
        // One ring is whole round u -2 and v from 2 to 8; round v 1 the PULL of u -1, v 0 is missing.
        middleDue(ring, -2, 2, 1);
    }

    /** "all PULLS no more than r apart by u and by v": on each side. */
    private static void p16OnEachSide() {
        BallInCup whole = made(23, "+8-37", "1-1+8");
        same("3 by 3", picture(whole), "---------- ---------- ---------- ---------- ---------- -------ooo -------ooo"
            + " -------ooo ----------");
        middleDue(whole, 2, 8, 1);
        BallInCup right = made(18, "-3+33", "4-4+7;2-3+8");
        same("u 4, v 5 is missing", picture(right), "---------- ---------- ---------- ---------- ---------- ---------o"
            + " -----oooo- -----oooo- ------ooo-");
        middleDue(right, 3, 7, 1);
        BallInCup above = made(19, "-6-19", "1+2+9");
        same("u -3, v 9 is missing", picture(above), "---------- -------oo- -------ooo -------ooo -------ooo ----------"
            + " ---------- ---------- ----------");
        middleDue(above, -1, 8, 1);
    }

    /** A ring that is not whole by one PULL does not count. */
    private static void p16NotWholeByOne() {
        BallInCup b = made(14, "+2-69", "1-1+3;2+3+8");
        b.set(1, 2);
        same("the grid", picture(b), "oooooooooo oooooooooo oooooooooo oooooooooo oooooooooo oooooooooo oooooooooo"
            + " oooooooooo -ooooooooo");
        // Round u 0, v 4 four rings lack u 4, v 0.
        middleDue(b, 0, 5, 4);
    }

    /** "NOT so: there is no PART; NONE so: none ends in it"; what is 0 to 2. */
    private static void p16NotAndNone() {
        BallInCup b = toss("+9+90");
        for (int what = 0; what < 3; what++) {
            due("none ends in it", b.middle(0, what), -100004);
        }
        due("middle(0, -1)", b.middle(0, -1), -100001);
        due("middle(0, 3)", b.middle(0, 3), -100001);
        due("middle(1, 0)", b.middle(1, 0), -100001);
        due("middle(-1, 0)", b.middle(-1, 0), -100001);
        b.still();
        for (int what = 0; what < 3; what++) {
            due("no PART", b.middle(0, what), -100002);
        }
    }

    /** "the hand goes by x 1 more to that side", in each STEP "from a told one on". */
    private static void p17FromAToldOneOn() {
        // In step 57 the ball comes down to the cup, 1 to its side.
        for (int side = -1; side <= 1; side += 2) {
            BallInCup b = alike("", "3+0-9");
            b.cup(side, 0, 0, 1, false);
            due("from step 57 on", b.mended(0, 57), 90);
            due("from step 58 on", b.mended(0, 58), 0);
        }
    }

    /** "1 or more away by x": the hand does not go on, where the ball is 0 away. */
    private static void p17OneOrMoreAway() {
        BallInCup b = alike("-1+00", "3+0-9");
        due("from step 56 on: it goes in that one alone", b.mended(0, 56), 90);
        due("from step 43 on: it goes in that one alone", b.mended(0, 43), 90);
        due("0 away: it goes in none", alike("+0+00", "3+0-9").mended(0, 43), 0);
    }

    /** "if the cord was slack behind the STEP ahead": not in step 42, as it is taut behind step 41. */
    private static void p17SlackBehindTheStepAhead() {
        // While the hand comes down, it goes aside by -7: from 7 to -8 are 15 steps, 43 to 57.
        BallInCup b = alike("-8+00", "1-1-9;2-3-9");
        due("from step 41 on", b.mended(0, 41), 90);
        due("from step 42 on", b.mended(0, 42), 90);
        due("from step 43 on", b.mended(0, 43), 90);
        due("from step 44 on", b.mended(0, 44), 0);
        BallInCup far = alike("-9+00", "1-1-9;2-3-9");
        due("one step too far", far.mended(0, 41), 0);
        due("one step too far", far.mended(0, 42), 0);
    }

    /** "(u is so much then)": where the ball is caught, too. */
    private static void p17SoFastIsTheHandThen() {
        BallInCup b = alike("-1+00", "3+0-9");
        b.set(2, 0);
        due("by 1 in step 57: too fast for 0", b.mended(0, 57), 0);
        due("by 1 in step 56: not in step 57", b.mended(0, 56), 90);
        b.set(2, 1);
        due("by 1 in step 57: not too fast for 1", b.mended(0, 57), 90);
    }

    /** "(ahead of STEP 0 it is TAUT)", and it is taut behind STEP 0: the hand goes 1 more from step 2 on. */
    private static void p17AheadOfStep0() {
        // Without: u -1 to -4 end in it. So: u 0, too, which comes to 0 away; u 3 and 4, as the hand goes along with
        // them, 8 and 7 away. From step 3 on u 3 is 9 away, from step 4 on u 4.
        BallInCup b = level("-9+08");
        due("without", b.cells(0, 0), 4);
        int[] due = {3, 3, 3, 2, 1, 1, 1, 1, 1, 1, 1, 0};
        for (int step = 0; step < due.length; step++) {
            due("from step " + step + " on", b.mended(0, step), due[step]);
        }
        // Without, u 4 ends in cup 1 with a slack cord; ahead of STEP 0 it is taut again.
        due("whatever try was gone through ahead", level("-9+08;+7+00").mended(0, 0), 3);
    }

    /** "that end in that CUP so, but not without". */
    private static void p17ThatCupAndNotWithout() {
        BallInCup b = alike("-1+00;+2+00", "3+0-9");
        due("in cup 0", b.mended(0, 57), 90);
        due("in cup 1 by two", b.mended(1, 56), 90);
        due("not by one", b.mended(1, 57), 0);
        // By -1 it is 2 away from cup 0, and on its rim.
        due("in cup 0 is not in cup 1", alike("-1+00;+1+00", "3+0-9").mended(1, 57), 0);
        due("all end in it without", alike("+0+09", "3+0-9").mended(0, 0), 0);
    }

    /** "LATE from a STEP (0 .. 99)". */
    private static void p17StepsAre0To99() {
        // Up by 9 until step 83, so that the ball comes down to the cup in step 99.
        BallInCup b = made(40, "-1+00", "20+0+0;20+0+0;20+0+0;20+0+0;4+0+9;3+0-9");
        due("mended(0, 99)", b.mended(0, 99), 90);
        due("mended(0, 100)", b.mended(0, 100), BAD);
        due("mended(0, -1)", b.mended(0, -1), BAD);
        due("mended(1, 0)", b.mended(1, 0), BAD);
        due("mended(-1, 0)", b.mended(-1, 0), BAD);
        b.still();
        due("no PART", b.mended(0, 99), NOT);
    }

    /** "each of u less 1, u, u and 1 (1, 2, 1 of four) and so for v". */
    private static void p18OneTwoOneOfFour() {
        // The ball comes up to 7, 6, 5 by v -10, -9, -8 and is at -10, -9, -8 by x for u 10, 9, 8.
        due("u any, v any", wandering("-9+51").odds(0), 16);
        due("u any, v -9, -10", wandering("-9+61").odds(0), 12);
        due("u any, v -10", wandering("-9+71").odds(0), 4);
        due("u any, v none", wandering("-9+81").odds(0), 0);
        due("u 9, v any", wandering("-9+50").odds(0), 8);
        due("u 9, v -9, -10", wandering("-9+60").odds(0), 6);
        due("u 9, v -10", wandering("-9+70").odds(0), 2);
        due("u 8, v any", wandering("-8+50").odds(0), 4);
        due("u 8, v -9, -10", wandering("-8+60").odds(0), 3);
        due("u 8, v -10", wandering("-8+70").odds(0), 1);
        due("u 8, 9, v any", wandering("-7+52").odds(0), 12);
    }

    /** "(u, v are told ones, also beyond -9 .. 9.)" */
    private static void p18BeyondNine() {
        // u 10 is not taken as 9, nor v -10 as -9.
        due("u 10", wandering("-9+00").odds(0), 8);
        due("u -10", made(20, "+9+00", "1-9-9;3+0-9").odds(0), 8);
        due("v -10", wandering("-9+71").odds(0), 4);
        // Cord 40, up by v: by 9 the ball comes up to -4, by 10 to 5; by u 1 or -1 it is 13 away then.
        due("v 10", made(40, "+0+00", "1+0+9").odds(0), 2);
        due("v 10, as WIDE as may be", made(40, "+0+09", "1+0+9").odds(0), 2);
    }

    /** "ODDS to end in a CUP": one that is there. */
    private static void p18CupIsOneThatIsThere() {
        BallInCup b = toss("+0+00");
        due("odds(1)", b.odds(1), BAD);
        due("odds(-1)", b.odds(-1), BAD);
        due("odds(LOW)", b.odds(LOW), BAD);
        b.still();
        due("no PART", b.odds(0), NOT);
        due("all 90 alike, and those beyond", alike("+0+00", "3+0-9").odds(0), 16);
    }

    // ---- 3 which, most, sizes

    /** "the greatest ODDS times WORTH (by the PULL as told), of like ones the least". */
    private static void p19OfLikeOnesTheLeast() {
        // ODDS are 4 and 8.
        due("4 and 8", wandering("-9+71:1;-9+61:1").which(), 1);
        due("8 and 8", wandering("-9+71:2;-9+61:1").which(), 0);
        due("12 and 8", wandering("-9+71:3;-9+61:1").which(), 0);
        due("0 and 8", wandering("-9+71:0;-9+61:1").which(), 1);
        due("0 and 0", wandering("-9+71:0;-9+61:0").which(), 0);
        due("none ends in any", toss("+9+90;+9+90;+9+90").which(), 0);
        due("the last of four", wandering("+9+90:99;+9+90:99;+9+90:99;-9+71:1").which(), 3);
    }

    /** "NOT: there is no PART; NONE: there are no CUPS". */
    private static void p19NotAndNone() {
        BallInCup b = new BallInCup();
        due("neither", b.which(), NOT);
        b.cup(0, 0, 0, 0, false);
        due("no PART", b.which(), NOT);
        due("no CUPS", toss("").which(), NONE);
        due("both", toss("+0+00").which(), 0);
    }

    /** "have ODDS (0 .. 16 sixteenths)". */
    private static void p20OddsAre0To16() {
        BallInCup b = new BallInCup();
        due("-1", b.trick(-1, 1, 1, 1), BAD);
        due("17", b.trick(17, 1, 1, 1), BAD);
        due("0", b.trick(0, 1, 1, 1), 0);
        due("16", b.trick(16, 1, 1, 1), 1);
        due("never", b.row(0, 1), 0);
        due("always", b.row(1, 1), 1000);
    }

    /** "SECONDS (1 .. 60)". */
    private static void p20SecondsAre1To60() {
        BallInCup b = new BallInCup();
        due("0", b.trick(1, 0, 1, 1), BAD);
        due("61", b.trick(1, 61, 1, 1), BAD);
        due("1", b.trick(1, 1, 1, 1), 0);
        due("60", b.trick(1, 60, 2, 1), 1);
        due("most(0, -1)", b.most(0, -1), 0);
        due("most(1, -1)", b.most(1, -1), 1);
        due("most(59, -1)", b.most(59, -1), 1);
        due("most(60, -1)", b.most(60, -1), 2);
        due("most(61, -1)", b.most(61, -1), 3);
    }

    /** "WORTH (0 .. 99)". */
    private static void p20WorthIs0To99() {
        BallInCup b = new BallInCup();
        due("-1", b.trick(16, 1, -1, 1), BAD);
        due("100", b.trick(16, 1, 100, 1), BAD);
        due("0", b.trick(16, 1, 0, 1), 0);
        due("most(180, -1)", b.most(180, -1), 0);
        due("99", b.trick(16, 1, 99, 1), 1);
        due("most(180, -1)", b.most(180, -1), 1584);
    }

    /** "MAY be tried so often (1 .. 9)". */
    private static void p20MayIs1To9() {
        BallInCup b = new BallInCup();
        due("0", b.trick(1, 1, 1, 0), BAD);
        due("10", b.trick(1, 1, 1, 10), BAD);
        due("1", b.trick(1, 1, 1, 1), 0);
        due("9", b.trick(1, 1, 1, 9), 1);
        due("most(180, 0)", b.most(180, 0), 1);
        due("most(180, 1)", b.most(180, 1), 9);
        due("most(180, -1)", b.most(180, -1), 10);
        due("most(9, -1)", b.most(9, -1), 9);
    }

    /** "FULL: 8". */
    private static void p20EightTricks() {
        BallInCup b = new BallInCup();
        for (int trick = 0; trick < 8; trick++) {
            due("trick " + trick, b.trick(1, 1, trick, 1), trick);
        }
        due("a ninth", b.trick(1, 1, 99, 1), FULL);
        due("count(3)", b.count(3), 8);
        due("all of them", b.most(180, -1), 28);
        due("the last", b.most(1, 7), 1);
    }

    /** "MOST in a time (0 .. 180)". */
    private static void p21TimesAre0To180() {
        BallInCup b = new BallInCup();
        due("most(0, -1), no TRICK", b.most(0, -1), 0);
        due("most(180, -1), no TRICK", b.most(180, -1), 0);
        b.trick(16, 60, 1, 9);
        due("most(-1, -1)", b.most(-1, -1), BAD);
        due("most(181, -1)", b.most(181, -1), BAD);
        due("most(0, 0)", b.most(0, 0), 0);
        due("most(179, 0)", b.most(179, 0), 2);
        due("most(180, 0)", b.most(180, 0), 3);
        due("most(180, -1)", b.most(180, -1), 48);
    }

    /** "MOST in a time (-1), or how often a TRICK is tried": one that is there. */
    private static void p21TrickIsOneThatIsThere() {
        BallInCup b = new BallInCup();
        due("most(9, 0)", b.most(9, 0), BAD);
        b.trick(1, 1, 1, 1);
        due("most(9, 0)", b.most(9, 0), 1);
        due("most(9, 1)", b.most(9, 1), BAD);
        due("most(9, -2)", b.most(9, -2), BAD);
        due("most(9, LOW)", b.most(9, LOW), BAD);
        due("most(9, FAR)", b.most(9, FAR), BAD);
    }

    /** "that together take no more SECONDS": just so many, one too many. */
    private static void p21NoMoreSeconds() {
        BallInCup b = new BallInCup();
        b.trick(10, 7, 1, 2);
        b.trick(16, 5, 1, 1);
        due("most(4, -1)", b.most(4, -1), 0);
        due("most(5, -1)", b.most(5, -1), 16);
        due("most(11, -1)", b.most(11, -1), 16);
        due("most(12, -1)", b.most(12, -1), 26);
        due("most(18, -1)", b.most(18, -1), 26);
        due("most(19, -1)", b.most(19, -1), 36);
    }

    /** "of like ones the first TRICK as often as may be, then the next". */
    private static void p21OfLikeOnesTheFirst() {
        BallInCup b = new BallInCup();
        b.trick(1, 2, 2, 9);
        b.trick(1, 1, 1, 9);
        b.trick(1, 3, 3, 9);
        // 7 are 2 2 2 1, or 2 2 3, and so on: the first 3 times, then the next 1 time.
        int[] seven = {7, 3, 1, 0};
        for (int trick = -1; trick < 3; trick++) {
            due("most(7, " + trick + ")", b.most(7, trick), seven[trick + 1]);
        }
        due("18: the first as often as it may", b.most(18, 0), 9);
        due("18: no time is left", b.most(18, 1), 0);
        due("28: then the next as often as it may", b.most(28, 1), 7);
        due("28: and then the last", b.most(28, 2), 1);
    }

    /** Tries that bring nothing count as often as may be, where time is left for them. */
    private static void p21TriesForNothing() {
        BallInCup b = new BallInCup();
        b.trick(0, 2, 99, 3);
        b.trick(16, 5, 1, 1);
        due("most(4, 0)", b.most(4, 0), 2);
        due("most(5, 0)", b.most(5, 0), 0);
        due("most(8, 0)", b.most(8, 0), 1);
        due("most(180, 0)", b.most(180, 0), 3);
    }

    /** "of n (1 .. 99) catches one behind the other". */
    private static void p22NIs1To99() {
        BallInCup b = new BallInCup();
        b.trick(16, 1, 1, 1);
        b.trick(8, 1, 1, 1);
        b.trick(0, 1, 1, 1);
        due("row(0, 0)", b.row(0, 0), BAD);
        due("row(0, 100)", b.row(0, 100), BAD);
        due("row(0, 1)", b.row(0, 1), 1000);
        due("row(0, 99)", b.row(0, 99), 1000);
        due("row(1, 1)", b.row(1, 1), 500);
        due("row(1, 9)", b.row(1, 9), 1);
        due("row(1, 10)", b.row(1, 10), 0);
        due("row(1, 99)", b.row(1, 99), 0);
        due("row(2, 1)", b.row(2, 1), 0);
        due("row(3, 1)", b.row(3, 1), BAD);
        due("row(-1, 1)", b.row(-1, 1), BAD);
    }

    /** "(cut in each)": 1000, 562, 316, 177, 99, where 9 by 16 four times is 100.1. */
    private static void p22CutInEach() {
        BallInCup b = new BallInCup();
        b.trick(9, 1, 1, 1);
        int[] due = {562, 316, 177, 99, 55, 30};
        for (int n = 1; n <= 6; n++) {
            due("row(0, " + n + ")", b.row(0, n), due[n - 1]);
        }
    }

    /** "All TRICKS go: how many": none, one, all eight, and eight may come again. */
    private static void p23NoneOneEight() {
        BallInCup b = new BallInCup();
        due("none", b.clear(), 0);
        b.trick(1, 1, 1, 1);
        due("one", b.clear(), 1);
        for (int trick = 0; trick < 8; trick++) {
            b.trick(1, 1, 1, 1);
        }
        due("most(180, -1)", b.most(180, -1), 8);
        due("eight", b.clear(), 8);
        due("count(3)", b.count(3), 0);
        due("most(180, -1)", b.most(180, -1), 0);
        due("row(0, 1)", b.row(0, 1), BAD);
        b.trick(1, 1, 1, 1);
        due("nothing of the eight is left", b.most(180, -1), 1);
        due("one", b.clear(), 1);
        for (int trick = 0; trick < 8; trick++) {
            due("they come again", b.trick(1, 1, 1, 1), trick);
        }
    }

    /** What set() and odds() say of each CORD, and that cord() says the same. */
    private static void cordDue(String cup, String pull, int best, int odds) {
        BallInCup b = made(33, cup, pull);
        b.set(2, 20);
        int least = 0;
        int most = -1;
        for (int cord = 10; cord <= 60; cord++) {
            b.set(0, cord);
            int now = b.odds(0);
            least = now > most ? cord : least;
            most = Math.max(now, most);
        }
        due("the best by odds()", least, best);
        due("its ODDS by odds()", most, odds);
        b.set(0, 33);
        due("cord(0, 0)", b.cord(0, 0), best);
        due("cord(0, 1)", b.cord(0, 1), odds);
        due("the CORD told stays", b.set(0, 33), 33);
    }

    /** "from 10 to 60 that by which ODDS to end in it are greatest". */
    private static void p24From10To60() {
        cordDue("-3-97", "5+9+1", 10, 16);
        cordDue("+4-42", "1-6+0;4+8+9;7-7-9", 60, 13);
    }

    /** "of like ones the least". */
    private static void p24OfLikeOnesTheLeast() {
        cordDue("+9+90", "1+0+0", 10, 0);
        cordDue("+7+29", "6-3+9;6-9-4;5+3-4", 46, 4);
        cordDue("+9+19", "6-8+6;6-7-9", 56, 5);
    }

    /** "that (0), ODDS (1). BAD; NOT: there is no PART". */
    private static void p24CupAndWhat() {
        BallInCup b = toss("+0+00");
        due("cord(0, -1)", b.cord(0, -1), BAD);
        due("cord(0, 2)", b.cord(0, 2), BAD);
        due("cord(1, 0)", b.cord(1, 0), BAD);
        due("cord(-1, 0)", b.cord(-1, 0), BAD);
        b.still();
        due("cord(0, 0)", b.cord(0, 0), NOT);
        due("cord(0, 1)", b.cord(0, 1), NOT);
    }

    /** "the first STEP from a told one on". */
    private static void p25FromAToldOneOn() {
        // The ball's pace less the hand's: 0, 8, 7, 5, 0, -1, -2, -3, -4, -5, -5, 0, 0, .. behind steps 0, 1, ..
        BallInCup b = toss("");
        int[] due = {0, 4, 4, 4, 4, 11, 11, 11, 11, 11, 11, 11, 12};
        for (int step = 0; step < due.length; step++) {
            due("down(" + step + ", 0)", b.down(step, 0), due[step]);
        }
    }

    /** "is no more than told by x and by y (as they are without sign)". */
    private static void p25NoMoreThanToldWithoutSign() {
        BallInCup b = toss("");
        due("8 for 8", b.down(1, 8), 1);
        due("8 for 7", b.down(1, 7), 2);
        due("-4 for 4", b.down(8, 4), 8);
        due("-4 for 3", b.down(8, 3), 11);
        // Behind step 0 it is -4, 1 or 4, 1; behind step 1 it is 1, 0 or -1, 0.
        for (String pull : new String[] {"1+5+0", "1-5+0"}) {
            BallInCup aside = made(10, "", pull);
            due("by x 4 for 4", aside.down(0, 4), 0);
            due("by x 4 for 3", aside.down(0, 3), 1);
            due("by x 1 for 1", aside.down(1, 1), 1);
        }
    }

    /** With no PART the ball hangs: it is down at once, and stays so. */
    private static void p25WithNoPart() {
        due("down(0, 0)", new BallInCup().down(0, 0), 0);
        due("down(99, 0)", new BallInCup().down(99, 0), 99);
    }

    /** "of a TRY in which nothing is MET". */
    private static void p25NothingIsMet() {
        // It would be caught with step 6, or be on the rim, which leaves a pace of 1.
        due("in a CUP", toss("+0+99").down(6, 0), 11);
        due("on a RIM", toss("+1+90").down(6, 1), 11);
    }

    /** "from a STEP (0 .. 99) on, for a pace (0 .. 99)"; "NONE: in none". */
    private static void p25StepsAndPacesAre0To99() {
        // In step 99 the hand goes down by 2, and the ball by 1.
        BallInCup b = made(10, "", "20+0+0;20+0+0;20+0+0;20+0+0;19+0+0;1+0-2");
        due("down(98, 0)", b.down(98, 0), 98);
        due("down(99, 0)", b.down(99, 0), NONE);
        due("down(99, 1)", b.down(99, 1), 99);
        due("down(0, 99)", b.down(0, 99), 0);
        due("down(99, 99)", b.down(99, 99), 99);
        // The toss with step 98: 8 with step 99, 7 would come behind it.
        BallInCup late = made(10, "", "20+0+0;20+0+0;20+0+0;20+0+0;18+0+0;1+0+9");
        due("down(99, 8)", late.down(99, 8), 99);
        due("down(99, 7)", late.down(99, 7), NONE);
        due("down(-1, 0)", b.down(-1, 0), BAD);
        due("down(100, 0)", b.down(100, 0), BAD);
        due("down(0, -1)", b.down(0, -1), BAD);
        due("down(0, 100)", b.down(0, 100), BAD);
    }

    // ---- films and sheets

    private static final int[] CAUGHT = {-1, 7, 14, 19, 19, 18, 16, 13, 9, 4, 4, 4};
    private static final int[] FALLING = {-1, 7, 14, 19, 19, 18, 16, 13, 9, 4, -1, -1};

    /** A sheet of 24 items: x is 0, y as told. */
    private static void fill(BallInCup b, int sheet, int lane, int[] y) {
        b.sheet(sheet, lane, 24);
        for (int i = 0; i < y.length; i++) {
            b.item(sheet, lane, 2 * i + 1, y[i]);
        }
    }

    /** "a row of places of the ball (x, y) behind STEPS 0, 1 and so on (where a TRY has ended it stays)". */
    private static void p26WhereATryHasEndedItStays() {
        BallInCup b = toss("+0+00");
        fill(b, 0, 1, CAUGHT);
        fill(b, 1, 1, FALLING);
        due("it stays", b.filmed(0, 1, 0, 12, 0), 1);
        due("its u", b.filmed(0, 1, 0, 12, 1), 0);
        due("its v", b.filmed(0, 1, 0, 12, 2), 9);
        due("it does not fall on", b.filmed(1, 1, 0, 12, 0), 0);
        due("alike up to the catch", b.filmed(1, 1, 0, 10, 0), 1);
        BallInCup none = toss("");
        fill(none, 0, 1, CAUGHT);
        fill(none, 1, 1, FALLING);
        due("with no CUP it falls on", none.filmed(1, 1, 0, 12, 0), 1);
        due("and does not stay", none.filmed(0, 1, 0, 11, 0), 0);
    }

    /** "PULLS of the GRID that show just these": x and y, from the first place to the last. */
    private static void p26JustThese() {
        BallInCup b = toss("");
        fill(b, 2, 2, FALLING);
        for (int i = 0; i < 24; i++) {
            int right = i % 2 == 0 ? 0 : FALLING[i / 2];
            for (int less = -1; less <= 1; less += 2) {
                b.item(2, 2, i, right + less);
                due("item " + i + " is another", b.filmed(2, 2, 0, 12, 0), 0);
                if (i >= 2) {
                    due("those ahead of item " + i, b.filmed(2, 2, 0, i / 2, 0), 1);
                }
            }
            b.item(2, 2, i, right);
        }
        due("all are right again", b.filmed(2, 2, 0, 12, 0), 1);
    }

    /** "n places (1 .. 12; x, y)". */
    private static void p26PlacesAre1To12() {
        BallInCup b = toss("");
        fill(b, 0, 0, FALLING);
        due("n 0", b.filmed(0, 0, 0, 0, 0), -100001);
        due("n 1", b.filmed(0, 0, 0, 1, 0), 1);
        due("n 12", b.filmed(0, 0, 0, 12, 0), 1);
        due("n 13", b.filmed(0, 0, 0, 13, 0), -100001);
        due("n LOW", b.filmed(0, 0, 0, LOW, 0), -100001);
        due("n FAR", b.filmed(0, 0, 0, FAR, 0), -100001);
    }

    /** "how many PULLS (0), the least u of the first (1), its v (2); u first". */
    private static void p26TheLeastUFirst() {
        // Cord 40: by u 1, 2, 3, 4 the ball is held at 0, -1, -2, -3 from the hand, so at 1 by each; at v less 40.
        BallInCup b = made(40, "", "1+0+0");
        b.sheet(3, 2, 2);
        for (int v = 0; v <= 9; v++) {
            for (int side = -1; side <= 1; side++) {
                b.item(3, 2, 0, side);
                b.item(3, 2, 1, v - 40);
                due("how many", b.filmed(3, 2, 0, 1, 0), side == 0 ? 1 : 4);
                due("u", b.filmed(3, 2, 0, 1, 1), side == 1 ? 1 : 4 * side);
                due("v", b.filmed(3, 2, 0, 1, 2), v);
            }
        }
        due("what -1", b.filmed(3, 2, 0, 1, -1), -100001);
        due("what 3", b.filmed(3, 2, 0, 1, 3), -100001);
    }

    /** "NONE: there are none (1, 2)", but 0 for how many. */
    private static void p26NoneForUAndV() {
        BallInCup b = toss("");
        b.sheet(0, 2, 2);
        due("how many", b.filmed(0, 2, 0, 1, 0), 0);
        due("u", b.filmed(0, 2, 0, 1, 1), -100004);
        due("v", b.filmed(0, 2, 0, 1, 2), -100004);
        b.still();
        for (int what = 0; what < 3; what++) {
            due("no PART", b.filmed(0, 2, 0, 1, what), -100002);
        }
    }

    /** "from item i on": the last i that may be, and one more. */
    private static void p26FromItemI() {
        BallInCup b = toss("");
        b.sheet(0, 1, 7);
        b.item(0, 1, 4, -1);
        b.item(0, 1, 6, 7);
        due("i 3, an odd one", b.filmed(0, 1, 3, 2, 0), 1);
        due("i 4: no room for two", b.filmed(0, 1, 4, 2, 0), -100013);
        due("i 5: room for one", b.filmed(0, 1, 5, 1, 0), 0);
        due("i 6: none for one", b.filmed(0, 1, 6, 1, 0), -100013);
        due("i 7", b.filmed(0, 1, 7, 1, 0), -100013);
        due("i -1", b.filmed(0, 1, -1, 1, 0), -100013);
        due("i LOW", b.filmed(0, 1, LOW, 12, 0), -100013);
        due("i FAR", b.filmed(0, 1, FAR, 12, 0), -100013);
        b.sheet(1, 1, 0);
        due("of an empty row", b.filmed(1, 1, 0, 1, 0), -100013);
    }

    /** "All but SHEETS, THE TAPE is kept": an empty one, a full one, a second in place of the first. */
    private static void p27EmptyAndFull() {
        BallInCup b = new BallInCup();
        due("an empty one", b.image(), 1);
        for (int i = 0; i < 8; i++) {
            b.cup(i, -i, i, i, i % 2 == 0);
            b.part(20, i, -i);
            b.trick(i, i + 1, i, i + 1);
        }
        b.set(0, 60);
        b.set(1, 4);
        b.set(2, 20);
        due("restore()", b.restore(), 1);
        for (int what = 0; what < 4; what++) {
            due("count(" + what + ")", b.count(what), 0);
        }
        due("CORD", b.set(0, 60), 30);
        due("WEIGHT", b.set(1, 4), 1);
        due("SOFT", b.set(2, 20), 6);
        for (int i = 0; i < 8; i++) {
            b.cup(i, -i, i, i, i % 2 == 0);
            b.part(20, i, -i);
            b.trick(i, i + 1, i, i + 1);
        }
        due("a full one", b.image(), 1);
        b.still();
        b.clear();
        typed(b, "+9+99");
        b.toy();
        b.set(0, 10);
        due("restore()", b.restore(), 1);
        int[] most = {4, 6, 120, 8};
        for (int what = 0; what < 4; what++) {
            due("count(" + what + ")", b.count(what), most[what]);
        }
        for (int cup = 0; cup < 4; cup++) {
            due("told", b.told(cup, 0), cup);
            due("told", b.told(cup, 4), 1 - cup % 2);
        }
        for (int part = 0; part < 6; part++) {
            due("pull", b.pull(part, 2), -part);
        }
        for (int trick = 0; trick < 8; trick++) {
            due("row", b.row(trick, 1), trick * 1000 / 16);
        }
        due("CORD", b.set(0, 60), 60);
        due("all of it is full", b.cup(0, 0, 0, 0, false), FULL);
        due("all of it is full", b.part(1, 0, 0), FULL);
        due("all of it is full", b.trick(0, 1, 0, 1), FULL);
    }

    /** "All but SHEETS, THE TAPE": these stay as they are. */
    private static void p28SheetsAndTapeStay() {
        BallInCup b = toss("");
        fill(b, 0, 2, CAUGHT);
        b.sheet(1, 0, 3);
        typed(b, "+1");
        b.image();
        fill(b, 0, 2, FALLING);
        b.drop(1);
        b.sheet(2, 1, 0);
        typed(b, "-23");
        due("restore()", b.restore(), 1);
        due("a SHEET stays", b.filmed(0, 2, 0, 12, 0), 1);
        due("a SHEET stays nothing", b.drop(1), BallInCup.NULL);
        due("a SHEET stays", b.drop(2), 0);
        due("THE TAPE stays", b.type(word(" "), 1), 6);
        due("THE TAPE stays", b.toy(), 1);
    }

    /** "All is as it was then", however often; "NONE: there is none". */
    private static void p28AgainAndAgain() {
        BallInCup b = new BallInCup();
        due("there is none", b.restore(), NONE);
        b.part(1, 1, 1);
        b.image();
        for (int i = 0; i < 3; i++) {
            b.part(2, 2, 2);
            due("restore()", b.restore(), 1);
            due("count(2)", b.count(2), 1);
        }
        b.still();
        due("what comes later is not in it", b.restore(), 1);
        due("count(2)", b.count(2), 1);
    }

    /** "n of them, 1 .. 12", "from item i on: how many items". */
    private static void p29PlacesAre1To12() {
        BallInCup b = toss("+0+00");
        b.sheet(0, 2, 24);
        due("n 0", b.film(0, 2, 0, 0), BAD);
        due("n 13", b.film(0, 2, 0, 13), BAD);
        due("n LOW", b.film(0, 2, 0, LOW), BAD);
        due("n FAR", b.film(0, 2, 0, FAR), BAD);
        due("n 1", b.film(0, 2, 22, 1), 2);
        due("n 12", b.film(0, 2, 0, 12), 24);
        due("where it has ended it stays", b.filmed(0, 2, 0, 12, 0), 1);
        fill(b, 1, 2, CAUGHT);
        for (int i = 0; i < 24; i++) {
            b.copy(0, i, 1, i, 1);
            due("item " + i + " is as worked out by hand", b.filmed(1, 2, 0, 12, 0), 1);
        }
    }

    /** "Places of the ball (x, y)": x, too. */
    private static void p29XAndY() {
        // Cord 10, by u 4: held at -3, -10; -1, -10; 0, -10; 0, -10 from the hand at 4, 0.
        BallInCup b = made(10, "", "1+4+0");
        int[] x = {1, 3, 4, 4, 4};
        b.sheet(0, 1, 10);
        b.sheet(1, 1, 10);
        for (int i = 0; i < 5; i++) {
            b.item(1, 1, 2 * i, x[i]);
            b.item(1, 1, 2 * i + 1, -10);
        }
        due("by hand", b.filmed(1, 1, 0, 5, 0), 1);
        due("film", b.film(0, 1, 0, 5), 10);
        due("what it shows", b.filmed(0, 1, 0, 5, 0), 1);
        due("u", b.filmed(0, 1, 0, 5, 1), 4);
        due("v", b.filmed(0, 1, 0, 5, 2), 0);
        for (int i = 0; i < 10; i++) {
            b.copy(0, i, 1, i, 1);
            due("item " + i + " is as worked out by hand", b.filmed(1, 1, 0, 5, 0), 1);
        }
    }

    /** "from item i on": the last i that may be, and one more; the items beside stay. */
    private static void p29FromItemI() {
        BallInCup b = toss("");
        b.sheet(0, 1, 7);
        due("i 3", b.film(0, 1, 3, 2), 4);
        due("what it shows", b.filmed(0, 1, 3, 2, 0), 1);
        due("i 4", b.film(0, 1, 4, 2), INDEX);
        due("i 5", b.film(0, 1, 5, 1), 2);
        due("i 6", b.film(0, 1, 6, 1), INDEX);
        due("i 7", b.film(0, 1, 7, 1), INDEX);
        due("i -1", b.film(0, 1, -1, 1), INDEX);
        due("i LOW", b.film(0, 1, LOW, 12), INDEX);
        due("i FAR", b.film(0, 1, FAR, 12), INDEX);
        fill(b, 2, 1, FALLING);
        for (int i = 4; i < 6; i++) {
            b.item(2, 1, i, 99);
            due("film", b.film(2, 1, 0, 2), 4);
            due("the item behind them stays", b.filmed(2, 1, 0, 12, 0), 0);
            b.item(2, 1, i, i == 4 ? 0 : 14);
            due("all items are right", b.filmed(2, 1, 0, 12, 0), 1);
        }
        due("film", b.film(2, 1, 2, 2), 4);
        b.item(2, 1, 3, 7);
        b.item(2, 1, 5, 14);
        due("the items ahead of them stay", b.filmed(2, 1, 0, 12, 0), 1);
        b.sheet(3, 1, 0);
        due("of an empty row", b.film(3, 1, 0, 1), INDEX);
    }

    /** "(their lowest bits)". */
    private static void p29TheirLowestBits() {
        // Cord 60, weight 4, the hand goes down by 9: behind step 11 the ball is at -168, which is 88 as a byte.
        BallInCup b = made(60, "", "12+0-9");
        b.set(1, 4);
        due("y behind step 11", b.at(11, 1), -168);
        b.sheet(0, 0, 24);
        due("film", b.film(0, 0, 0, 12), 24);
        // Cord 20, weight 1, up by 9: it is at 88.
        b.set(0, 20);
        b.set(1, 1);
        b.still();
        b.part(12, 0, 9);
        due("y behind step 11", b.at(11, 1), 88);
        b.sheet(1, 0, 24);
        b.film(1, 0, 0, 12);
        b.item(1, 0, 23, 87);
        due("87", b.filmed(1, 0, 0, 12, 0), 0);
        b.copy(0, 23, 1, 23, 1);
        due("88", b.filmed(1, 0, 0, 12, 0), 1);
    }

    /** A film needs no PART and no CUP. */
    private static void p29WithNoPart() {
        BallInCup b = new BallInCup();
        b.sheet(0, 0, 4);
        due("film", b.film(0, 0, 0, 2), 4);
        b.part(2, 0, 0);
        due("the ball hangs", b.filmed(0, 0, 0, 2, 0), 1);
    }

    /** "of 0 to 24 items": "BAD: also n above 24; SIZE: n below 0". */
    private static void p30ItemsAre0To24() {
        BallInCup b = new BallInCup();
        due("n -1", b.sheet(0, 0, -1), BallInCup.SIZE);
        due("n LOW", b.sheet(0, 0, LOW), BallInCup.SIZE);
        due("n 25", b.sheet(0, 0, 25), BAD);
        due("n FAR", b.sheet(0, 0, FAR), BAD);
        due("nothing yet", b.drop(0), BallInCup.NULL);
        due("n 0", b.sheet(0, 0, 0), 0);
        due("item 0 of 0", b.item(0, 0, 0, 1), INDEX);
        due("drop", b.drop(0), 0);
        due("n 24", b.sheet(0, 0, 24), 24);
        due("item 23 of 24", b.item(0, 0, 23, 1), 1);
        due("item 24 of 24", b.item(0, 0, 24, 1), INDEX);
        due("drop", b.drop(0), 24);
    }

    /** "sheets 0 .. 3", "a LANE: 0 bytes, 1 shorts, 2 ints". */
    private static void p30SheetsAre0To3Lanes0To2() {
        BallInCup b = new BallInCup();
        due("sheet -1", b.sheet(-1, 0, 1), BAD);
        due("sheet 4", b.sheet(4, 0, 1), BAD);
        due("lane -1", b.sheet(0, -1, 1), BAD);
        due("lane 3", b.sheet(0, 3, 1), BAD);
        for (int sheet = 0; sheet < 4; sheet++) {
            for (int lane = 0; lane < 3; lane++) {
                due("sheet " + sheet, b.sheet(sheet, lane, sheet + lane), sheet + lane);
                for (int other = 0; other < 3; other++) {
                    due("as a row of " + other, b.film(sheet, other, -1, 1), other == lane ? INDEX : BallInCup.CAST);
                }
            }
        }
        for (int sheet = 0; sheet < 4; sheet++) {
            due("each has its own", b.drop(sheet), sheet + 2);
        }
    }

    /** "A SHEET holds a new row": nothing of the old one is in it. */
    private static void p30ANewRow() {
        BallInCup b = toss("");
        fill(b, 0, 2, FALLING);
        due("a row", b.filmed(0, 2, 0, 12, 0), 1);
        b.sheet(0, 2, 24);
        due("a new one", b.filmed(0, 2, 0, 1, 0), 0);
        b.item(0, 2, 1, -1);
        due("its items are 0", b.filmed(0, 2, 0, 1, 0), 1);
        b.item(0, 2, 0, 9);
        b.sheet(0, 0, 2);
        b.item(0, 0, 1, -1);
        due("its items are 0, of another LANE too", b.filmed(0, 0, 0, 1, 0), 1);
        b.item(0, 0, 0, 9);
        b.drop(0);
        b.sheet(0, 0, 2);
        b.item(0, 0, 1, -1);
        due("its items are 0, when it was dropped too", b.filmed(0, 0, 0, 1, 0), 1);
    }

    /** "A SHEET holds nothing: how many items it had. BAD; NULL". */
    private static void p31NothingIsLeft() {
        BallInCup b = new BallInCup();
        due("drop(-1)", b.drop(-1), BAD);
        due("drop(4)", b.drop(4), BAD);
        for (int sheet = 0; sheet < 4; sheet++) {
            due("nothing", b.drop(sheet), BallInCup.NULL);
            b.sheet(sheet, 1, 8 * sheet);
            due("how many", b.drop(sheet), 8 * sheet);
            due("nothing", b.drop(sheet), BallInCup.NULL);
            due("nothing", b.item(sheet, 1, 0, 0), BallInCup.NULL);
        }
    }

    /** "Item i of a SHEET": the first, the last, one beyond each. */
    private static void p32TheFirstAndTheLast() {
        BallInCup b = new BallInCup();
        b.sheet(3, 2, 5);
        due("i -1", b.item(3, 2, -1, 0), INDEX);
        due("i 0", b.item(3, 2, 0, 0), 1);
        due("i 4", b.item(3, 2, 4, 0), 1);
        due("i 5", b.item(3, 2, 5, 0), INDEX);
        due("i 23", b.item(3, 2, 23, 0), INDEX);
        due("i LOW", b.item(3, 2, LOW, 0), INDEX);
        due("i FAR", b.item(3, 2, FAR, 0), INDEX);
    }

    /** "becomes v, its lowest bits": 8, 16, 32 of them, "all with a sign". */
    private static void p32ItsLowestBits() {
        // Behind step 0 the ball of the toss is at 0, -1.
        int[][] asMinus1 = {{-1, 255, 511, -257, 65535, FAR}, {-1, 65535, -65537, FAR}, {-1}};
        int[][] asOthers = {{127, 128, 245, -129, LOW}, {255, 32767, 32768, 65525, -257, LOW}, {255, 65535, FAR, LOW}};
        int[][] asZero = {{256, -256, 65536, LOW}, {65536, -65536, LOW}, {0}};
        BallInCup b = toss("");
        for (int lane = 0; lane < 3; lane++) {
            b.sheet(0, lane, 2);
            for (int v : asMinus1[lane]) {
                due("item 1", b.item(0, lane, 1, v), 1);
                due(v + " is -1 in lane " + lane, b.filmed(0, lane, 0, 1, 0), 1);
            }
            for (int v : asOthers[lane]) {
                b.item(0, lane, 1, v);
                due(v + " is not -1 in lane " + lane, b.filmed(0, lane, 0, 1, 0), 0);
            }
            b.item(0, lane, 1, -1);
            for (int v : asZero[lane]) {
                b.item(0, lane, 0, v);
                due(v + " is 0 in lane " + lane, b.filmed(0, lane, 0, 1, 0), 1);
            }
        }
    }

    /** "bytes .. (all with a sign)": 128 is -128. */
    private static void p32TheLeastByte() {
        // Cord 56, weight 4, from step 1 on the hand goes down by 9: behind step 8 the ball is 56 below -72.
        BallInCup b = made(56, "", "1+0+0;11+0-9");
        b.set(1, 4);
        due("y behind step 8", b.at(8, 1), -128);
        b.sheet(0, 0, 18);
        b.film(0, 0, 0, 9);
        due("-128 is a byte", b.filmed(0, 0, 0, 9, 0), 1);
        b.item(0, 0, 17, 127);
        due("127 is another", b.filmed(0, 0, 0, 9, 0), 0);
        b.item(0, 0, 17, 128);
        due("128 is -128", b.filmed(0, 0, 0, 9, 0), 1);
    }

    /** "n items of a SHEET from i on come to another one from j on": from 0 to all of them. */
    private static void p33NoneToAll() {
        BallInCup b = toss("");
        fill(b, 0, 1, FALLING);
        b.sheet(1, 1, 24);
        due("all", b.copy(0, 0, 1, 0, 24), 24);
        due("what came", b.filmed(1, 1, 0, 12, 0), 1);
        due("one too many", b.copy(0, 0, 1, 0, 25), INDEX);
        due("n -1", b.copy(0, 0, 1, 0, -1), INDEX);
        due("n LOW", b.copy(0, 0, 1, 0, LOW), INDEX);
        due("n FAR", b.copy(0, 0, 1, 0, FAR), INDEX);
        due("i 1, n FAR", b.copy(0, 1, 1, 1, FAR), INDEX);
        due("the last", b.copy(0, 23, 1, 23, 1), 1);
        due("i one too far", b.copy(0, 24, 1, 23, 1), INDEX);
        due("j one too far", b.copy(0, 23, 1, 24, 1), INDEX);
        due("i -1", b.copy(0, -1, 1, 0, 1), INDEX);
        due("j -1", b.copy(0, 0, 1, -1, 1), INDEX);
        due("i FAR", b.copy(0, FAR, 1, 0, 1), INDEX);
        due("j FAR", b.copy(0, 0, 1, FAR, 1), INDEX);
        due("i FAR, n FAR", b.copy(0, FAR, 1, 0, FAR), INDEX);
        b.sheet(2, 1, 5);
        due("i and n by the row's own size", b.copy(2, 2, 1, 0, 3), 3);
        due("i and n by the row's own size", b.copy(2, 2, 1, 0, 4), INDEX);
        due("j and n by the row's own size", b.copy(1, 0, 2, 2, 3), 3);
        due("j and n by the row's own size", b.copy(1, 0, 2, 2, 4), INDEX);
    }

    /** "sheets 0 .. 3": from each to each. */
    private static void p33SheetsAre0To3() {
        BallInCup b = new BallInCup();
        for (int sheet = 0; sheet < 4; sheet++) {
            b.sheet(sheet, 0, 2);
        }
        for (int from = -1; from <= 4; from++) {
            for (int to = -1; to <= 4; to++) {
                boolean isBad = from < 0 || from > 3 || to < 0 || to > 3;
                due("from " + from + " to " + to, b.copy(from, 0, to, 1, 1), isBad ? BAD : 1);
            }
        }
    }

    /** "INDEX also where no item is taken, if i, j is below 0, or above how many there are". */
    private static void p33WhereNoItemIsTaken() {
        BallInCup b = new BallInCup();
        b.sheet(0, 1, 3);
        b.sheet(1, 1, 0);
        due("i 0, j 0", b.copy(0, 0, 1, 0, 0), 0);
        due("i 3: how many there are", b.copy(0, 3, 1, 0, 0), 0);
        due("i 4", b.copy(0, 4, 1, 0, 0), INDEX);
        due("i -1", b.copy(0, -1, 1, 0, 0), INDEX);
        due("j 3: how many there are", b.copy(1, 0, 0, 3, 0), 0);
        due("j 4", b.copy(1, 0, 0, 4, 0), INDEX);
        due("j -1", b.copy(1, 0, 0, -1, 0), INDEX);
        due("j 1 of none", b.copy(0, 0, 1, 1, 0), INDEX);
        due("i FAR", b.copy(0, FAR, 1, 0, 0), INDEX);
        due("j LOW", b.copy(0, 0, 1, LOW, 0), INDEX);
        due("one of none", b.copy(1, 0, 0, 0, 1), INDEX);
        due("one to none", b.copy(0, 0, 1, 0, 1), INDEX);
    }

    /** "(or the same) .. as if all were taken ahead". */
    private static void p33AsIfAllWereTakenAhead() {
        for (int by = 1; by <= 6; by++) {
            BallInCup b = toss("");
            fill(b, 0, 2, FALLING);
            due("up by " + by, b.copy(0, 0, 0, by, 18), 18);
            due("all 9 places came", b.filmed(0, 2, by, 9, 0), 1);
            due("down by " + by, b.copy(0, by, 0, 0, 18), 18);
            due("all 9 places came", b.filmed(0, 2, 0, 9, 0), 1);
        }
        BallInCup b = toss("");
        fill(b, 0, 2, FALLING);
        due("to where it is", b.copy(0, 0, 0, 0, 24), 24);
        due("nothing is changed", b.filmed(0, 2, 0, 12, 0), 1);
    }

    /** "(or the same)": what comes to a SHEET is a copy. */
    private static void p33ARowOfItsOwn() {
        BallInCup b = toss("");
        fill(b, 0, 2, FALLING);
        b.sheet(1, 2, 24);
        b.copy(0, 0, 1, 0, 24);
        b.item(0, 2, 1, 5);
        due("the copy stays", b.filmed(1, 2, 0, 12, 0), 1);
        b.drop(0);
        due("the copy stays", b.filmed(1, 2, 0, 12, 0), 1);
    }
}
