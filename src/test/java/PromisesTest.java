/** Each promise of the document by its number: ordinary inputs, the edges that it names, wrong inputs. */
public final class PromisesTest {
    private static final int FAR = Integer.MAX_VALUE;
    private static final int LOW = Integer.MIN_VALUE;
    private static int promise = 0;
    private static int asked = 0;
    private static int wrong = 0;

    public static void main(String[] args) {
        newObject();
        set();
        cup();
        part();
        still();
        type();
        toy();
        pulls();
        at();
        turned();
        end();
        rims();
        spikes();
        count();
        ends();
        cells();
        middle();
        grids();
        mended();
        odds();
        which();
        trick();
        most();
        row();
        cord();
        down();
        filmed();
        image();
        film();
        sheet();
        item();
        copy();
        System.out.println(wrong == 0 ? asked + " answers are as due" : wrong + " answers are not as due");
        if (wrong != 0) {
            System.exit(1);
        }
    }

    private static void due(String call, int got, int want) {
        asked++;
        if (got != want) {
            wrong++;
            System.out.println("promise " + promise + ": " + call + " answered " + got + ", due is " + want);
        }
    }

    /** Types a text as the longest pieces that may be; answers what the last piece answered. */
    private static int typed(BallInCup b, String text) {
        int answer = 0;
        for (int i = 0; i < text.length(); i += 8) {
            String piece = text.substring(i, Math.min(i + 8, text.length()));
            answer = b.type(word(piece), piece.length());
        }
        return answer;
    }

    private static long word(String piece) {
        long w = 0;
        for (int i = 0; i < piece.length(); i++) {
            w = w << 8 | piece.charAt(i);
        }
        return w;
    }

    private static int toyOf(BallInCup b, String text) {
        typed(b, text);
        return b.toy();
    }

    private static int pullOf(BallInCup b, String text) {
        typed(b, text);
        return b.pulls();
    }

    /** A toy with a cord and weight, cups and a pull as texts. */
    private static BallInCup made(int cord, int weight, String cups, String pull) {
        BallInCup b = new BallInCup();
        b.set(0, cord);
        b.set(1, weight);
        if (!cups.isEmpty() && toyOf(b, cups) < 0 || !pull.isEmpty() && pullOf(b, pull) < 0) {
            due("a text of this test", -1, 0);
        }
        return b;
    }

    /**
     * One step up by 9 with a cord of 10: the ball is thrown, comes to 10 above the hand with steps 3 and 4 and falls;
     * from the hand it is at 9, 7, 4, 0, -5, -10 behind steps 5 to 10.
     */
    private static BallInCup tossed(String cups) {
        return made(10, 1, cups, "1+0+9");
    }

    // ---- 1 the toy, a try

    private static void newObject() {
        promise = 1;
        BallInCup b = new BallInCup();
        for (int what = 0; what < 4; what++) {
            due("count(" + what + ")", b.count(what), 0);
        }
        due("set(0, 30)", b.set(0, 30), 30);
        due("set(1, 1)", b.set(1, 1), 1);
        due("set(2, 6)", b.set(2, 6), 6);
        due("restore()", b.restore(), BallInCup.NONE);
        due("toy()", b.toy(), -20);
        for (int i = 0; i < 4; i++) {
            due("drop(" + i + ")", b.drop(i), BallInCup.NULL);
        }
        due("at(50, 1)", b.at(50, 1), -30);
        due("told(0, 0)", b.told(0, 0), -100001);
        due("pull(0, 0)", b.pull(0, 0), -100001);
    }

    private static void set() {
        promise = 2;
        BallInCup b = new BallInCup();
        int[][] edges = {{10, 60, 30}, {1, 4, 1}, {0, 20, 6}};
        for (int what = 0; what < 3; what++) {
            int least = edges[what][0];
            int most = edges[what][1];
            due("set(what, least)", b.set(what, least), edges[what][2]);
            due("set(what, below)", b.set(what, least - 1), BallInCup.BAD);
            due("set(what, above)", b.set(what, most + 1), BallInCup.BAD);
            due("set(what, LOW)", b.set(what, LOW), BallInCup.BAD);
            due("set(what, most)", b.set(what, most), least);
            due("set(what, least)", b.set(what, least), most);
        }
        due("set(-1, 10)", b.set(-1, 10), BallInCup.BAD);
        due("set(3, 10)", b.set(3, 10), BallInCup.BAD);
        due("set(FAR, 10)", b.set(FAR, 10), BallInCup.BAD);
        due("set(LOW, 10)", b.set(LOW, 10), BallInCup.BAD);
        due("at(0, 1)", b.at(0, 1), -10);
    }

    private static void cup() {
        promise = 3;
        BallInCup b = new BallInCup();
        due("x above", b.cup(10, 0, 0, 0, false), BallInCup.BAD);
        due("x below", b.cup(-10, 0, 0, 0, false), BallInCup.BAD);
        due("y above", b.cup(0, 10, 0, 0, false), BallInCup.BAD);
        due("y below", b.cup(0, -10, 0, 0, false), BallInCup.BAD);
        due("wide above", b.cup(0, 0, 10, 0, false), BallInCup.BAD);
        due("wide below", b.cup(0, 0, -1, 0, false), BallInCup.BAD);
        due("worth above", b.cup(0, 0, 0, 100, false), BallInCup.BAD);
        due("worth below", b.cup(0, 0, 0, -1, true), BallInCup.BAD);
        due("count(0)", b.count(0), 0);
        due("cup 0", b.cup(9, -9, 9, 99, true), 0);
        due("cup 1", b.cup(-9, 9, 0, 0, false), 1);
        due("cup 2", b.cup(0, 0, 0, 0, false), 2);
        due("cup 3", b.cup(1, 2, 3, 4, true), 3);
        due("cup 4", b.cup(1, 2, 3, 4, true), BallInCup.FULL);
        due("BAD ahead of FULL", b.cup(10, 2, 3, 4, true), BallInCup.BAD);
        due("count(0)", b.count(0), 4);

        promise = 4;
        int[][] told = {{9, -9, 9, 99, 1}, {-9, 9, 0, 0, 0}, {0, 0, 0, 0, 0}, {1, 2, 3, 4, 1}};
        for (int cup = 0; cup < 4; cup++) {
            for (int what = 0; what < 5; what++) {
                due("told(" + cup + ", " + what + ")", b.told(cup, what), told[cup][what]);
            }
        }
        due("told(4, 0)", b.told(4, 0), -100001);
        due("told(-1, 0)", b.told(-1, 0), -100001);
        due("told(0, 5)", b.told(0, 5), -100001);
        due("told(0, -1)", b.told(0, -1), -100001);
        due("told(FAR, LOW)", b.told(FAR, LOW), -100001);
    }

    private static void part() {
        promise = 5;
        BallInCup b = new BallInCup();
        due("steps below", b.part(0, 0, 0), BallInCup.BAD);
        due("steps above", b.part(21, 0, 0), BallInCup.BAD);
        due("u below", b.part(1, -10, 0), BallInCup.BAD);
        due("u above", b.part(1, 10, 0), BallInCup.BAD);
        due("v below", b.part(1, 0, -10), BallInCup.BAD);
        due("v above", b.part(1, 0, 10), BallInCup.BAD);
        due("count(1)", b.count(1), 0);
        due("part 0", b.part(1, -9, 9), 0);
        due("part 1", b.part(20, 9, -9), 1);
        for (int i = 2; i < 6; i++) {
            due("part " + i, b.part(i, i, -i), i);
        }
        due("part 6", b.part(1, 0, 0), BallInCup.FULL);
        due("BAD ahead of FULL", b.part(0, 0, 0), BallInCup.BAD);

        promise = 6;
        int[][] told = {{1, -9, 9}, {20, 9, -9}, {2, 2, -2}, {3, 3, -3}, {4, 4, -4}, {5, 5, -5}};
        for (int part = 0; part < 6; part++) {
            for (int what = 0; what < 3; what++) {
                due("pull(" + part + ", " + what + ")", b.pull(part, what), told[part][what]);
            }
        }
        due("pull(6, 0)", b.pull(6, 0), -100001);
        due("pull(-1, 0)", b.pull(-1, 0), -100001);
        due("pull(0, 3)", b.pull(0, 3), -100001);
        due("pull(0, -1)", b.pull(0, -1), -100001);
        due("pull(LOW, FAR)", b.pull(LOW, FAR), -100001);
    }

    private static void still() {
        promise = 7;
        BallInCup b = tossed("+0+01");
        b.part(2, 1, 1);
        due("still()", b.still(), 2);
        due("count(1)", b.count(1), 0);
        due("count(2)", b.count(2), 0);
        due("count(0)", b.count(0), 1);
        due("pull(0, 0)", b.pull(0, 0), -100001);
        due("at(20, 7)", b.at(20, 7), 0);
        due("still()", b.still(), 0);
        due("part(..)", b.part(1, 1, 1), 0);
    }

    private static void type() {
        promise = 8;
        BallInCup b = new BallInCup();
        due("n below", b.type(word("+"), 0), BallInCup.BAD);
        due("n above", b.type(word("++++++++"), 9), BallInCup.BAD);
        due("n far below", b.type(word("+"), LOW), BallInCup.BAD);
        due("n far above", b.type(word("+"), FAR), BallInCup.BAD);
        due("a byte of 31", b.type(31, 1), BallInCup.BAD);
        due("a byte of 127", b.type(127, 1), BallInCup.BAD);
        due("a byte of 255", b.type(-1L, 8), BallInCup.BAD);
        due("a byte of 0", b.type('+', 2), BallInCup.BAD);
        due("a byte of 32", b.type(32, 1), 1);
        due("a byte of 126", b.type(126, 1), 2);
        due("' ~' as a toy", b.toy(), -21);
        due("higher bytes count for nothing", b.type(0x7f1f0000L << 32 | '+', 1), 1);
        due("the highest first", typed(b, "1-23"), 5);
        due("toy()", b.toy(), 1);
        due("told(0, 0)", b.told(0, 0), 1);
        due("told(0, 1)", b.told(0, 1), -2);
        due("told(0, 2)", b.told(0, 2), 3);
        due("8 bytes", typed(b, "        "), 8);
        for (int i = 2; i < 8; i++) {
            due("8 bytes more", typed(b, "        "), 8 * i);
        }
        due("5 of 4 left", b.type(word("+0+0 "), 5), BallInCup.FULL);
        due("BAD ahead of FULL", b.type(31, 5), BallInCup.BAD);
        due("3 of 4 left", b.type(word("+0+"), 3), 59);
        due("2 of 1 left", b.type(word("0 "), 2), BallInCup.FULL);
        due("1 of 1 left", b.type(word("0"), 1), 60);
        due("1 of 0 left", b.type(word("0"), 1), BallInCup.FULL);
        due("toy()", b.toy(), -80);
        due("it is empty then", typed(b, "+"), 1);
    }

    private static void toyFault(BallInCup b, String text, int place) {
        due("'" + text + "' as a toy", toyOf(b, text), -20 - place);
        due("those told stay", b.told(0, 0) * 10 + b.count(0), 71);
        due("the tape is empty", b.type('+', 1), 1);
        due("'+' as a toy", b.toy(), -21);
    }

    private static void toy() {
        promise = 9;
        BallInCup b = new BallInCup();
        due("one cup", toyOf(b, "+7-89"), 1);
        due("told(0, 3)", b.told(0, 3), 1);
        due("told(0, 4)", b.told(0, 4), 0);
        toyFault(b, "", 0);
        toyFault(b, " ", 1);
        toyFault(b, "7-89", 0);
        toyFault(b, "+", 1);
        toyFault(b, "+x", 1);
        toyFault(b, "++7", 1);
        toyFault(b, "+1", 2);
        toyFault(b, "+12", 2);
        toyFault(b, "+1+", 3);
        toyFault(b, "+1+2", 4);
        toyFault(b, "+1+2s", 4);
        toyFault(b, "+1+234", 5);
        toyFault(b, "+1+23S", 5);
        toyFault(b, "+1+23ss", 6);
        toyFault(b, "+1+23:", 6);
        toyFault(b, "+1+23:s", 6);
        toyFault(b, "+1+23:100", 6);
        toyFault(b, "+1+23: 0100", 7);
        toyFault(b, "+1+23:99999999999999999999", 6);
        toyFault(b, "+1+23:4 5", 8);
        toyFault(b, "+1+23:5s", 7);
        toyFault(b, "+1+23:5:5", 7);
        toyFault(b, "+1+23;", 6);
        toyFault(b, "+1+23;   ", 9);
        toyFault(b, "+1+23;;", 6);
        toyFault(b, "+1+23,+1+23", 5);
        toyFault(b, "+1+23 +1+23", 6);
        toyFault(b, "+1+23;+1+23;+1+23;+1+23;+1+23", 23);
        toyFault(b, "+1+23;+1+23;+1+23;+1+23 ; x", 24);
        toyFault(b, "+1+23:100;x", 6);
        due("four cups", toyOf(b, "-1-20;+9+99s;-9-93:7;+0-04s:0099"), 4);
        int[][] told = {{-1, -2, 0, 1, 0}, {9, 9, 9, 1, 1}, {-9, -9, 3, 7, 0}, {0, 0, 4, 99, 1}};
        for (int cup = 0; cup < 4; cup++) {
            for (int what = 0; what < 5; what++) {
                due("told(" + cup + ", " + what + ")", b.told(cup, what), told[cup][what]);
            }
        }
        due("blanks", toyOf(b, "  + 1 - 2 3 s : 45  ; -3+40 "), 2);
        due("told(0, 3)", b.told(0, 3), 45);
        due("told(1, 0)", b.told(1, 0), -3);
        due("worth 0", toyOf(b, "+1+23:0"), 1);
        due("told(0, 3)", b.told(0, 3), 0);
        due("the cord stays", b.set(0, 30), 30);
    }

    private static void pullFault(BallInCup b, String text, int place) {
        due("'" + text + "' as a pull", pullOf(b, text), -20 - place);
        due("the one told stays", b.pull(0, 1) * 100 + b.count(2), 713);
        due("the tape is empty", b.type('1', 1), 1);
        due("'1' as a pull", b.pulls(), -21);
    }

    private static void pulls() {
        promise = 10;
        BallInCup b = new BallInCup();
        due("one part", pullOf(b, "13+7-8"), 1);
        due("pull(0, 0)", b.pull(0, 0), 13);
        due("pull(0, 1)", b.pull(0, 1), 7);
        due("pull(0, 2)", b.pull(0, 2), -8);
        pullFault(b, "", 0);
        pullFault(b, "   ", 3);
        pullFault(b, "+1+1", 0);
        pullFault(b, "x", 0);
        pullFault(b, "0+1+1", 0);
        pullFault(b, " 00+1+1", 1);
        pullFault(b, "21+1+1", 0);
        pullFault(b, "021", 0);
        pullFault(b, "99999999999999999999999+1+1", 0);
        pullFault(b, "4294967297+1+1", 0);
        pullFault(b, "1", 1);
        pullFault(b, "1 2+1+1", 2);
        pullFault(b, "1+", 2);
        pullFault(b, "1+1", 3);
        pullFault(b, "1+11", 3);
        pullFault(b, "1+1+", 4);
        pullFault(b, "1+1+12", 5);
        pullFault(b, "1+1+1s", 5);
        pullFault(b, "1+1+1;", 6);
        pullFault(b, "1+1+1;0+1+1", 6);
        pullFault(b, "1+1+1;1+1+1;1+1+1;1+1+1;1+1+1;1+1+1;1+1+1", 35);
        due("six parts", pullOf(b, "1+0+0;2-1-1;3+2-2;04-3+3;20+9-9;0006-9+9"), 6);
        int[][] told = {{1, 0, 0}, {2, -1, -1}, {3, 2, -2}, {4, -3, 3}, {20, 9, -9}, {6, -9, 9}};
        for (int part = 0; part < 6; part++) {
            for (int what = 0; what < 3; what++) {
                due("pull(" + part + ", " + what + ")", b.pull(part, what), told[part][what]);
            }
        }
        due("blanks", pullOf(b, " 1 + 2 - 3 ; 20+1+1 "), 2);
        due("pull(0, 2)", b.pull(0, 2), -3);
        due("count(2)", b.count(2), 21);
    }

    private static void at() {
        promise = 11;
        BallInCup b = tossed("");
        int[] y = {-1, 7, 14, 19, 19, 18, 16, 13, 9, 4, -1, -1};
        int[] pace = {9, 8, 7, 5, 0, -1, -2, -3, -4, -5, -5, 0};
        int[] taut = {1, 0, 0, 1, 1, 0, 0, 0, 0, 0, 1, 1};
        for (int step = 0; step < y.length; step++) {
            due("at(" + step + ", 0)", b.at(step, 0), 0);
            due("at(" + step + ", 1)", b.at(step, 1), y[step]);
            due("at(" + step + ", 2)", b.at(step, 2), 0);
            due("at(" + step + ", 3)", b.at(step, 3), pace[step]);
            due("at(" + step + ", 6)", b.at(step, 6), 0);
            due("at(" + step + ", 7)", b.at(step, 7), 9);
            due("at(" + step + ", 8)", b.at(step, 8), taut[step]);
        }
        due("at(99, 1)", b.at(99, 1), -1);
        due("at(-1, 0)", b.at(-1, 0), -100001);
        due("at(100, 0)", b.at(100, 0), -100001);
        due("at(0, -1)", b.at(0, -1), -100001);
        due("at(0, 9)", b.at(0, 9), -100001);
        due("at(FAR, LOW)", b.at(FAR, LOW), -100001);
        BallInCup caught = tossed("+0+00");
        due("at(9, 1)", caught.at(9, 1), 4);
        for (int step = 10; step < 100; step++) {
            due("it stays where it ended, at(" + step + ", 1)", caught.at(step, 1), 4);
        }
        due("at(99, 3)", caught.at(99, 3), -5);
        due("at(99, 8)", caught.at(99, 8), 0);
        BallInCup below = made(30, 1, "", "1+0-9");
        due("slack at once", below.at(0, 8), 0);
        due("with no turn", below.at(1, 4), 0);
        due("and no spin", below.at(1, 5), 0);
        BallInCup far = made(10, 1, "", "20+9+0;20+9+0;20+9+0;20+9+0;20+9+0;20-9+0");
        due("the hand goes through 100 steps", far.at(99, 6), 900);
    }

    /** Two steps aside by 5, cord 11: each number gone through by hand. */
    private static void turned() {
        promise = 11;
        BallInCup b = made(11, 1, "", "2+5+0");
        // Step 0: the hand at 5, the ball at 0, -12: -5, -12 from it, root 13: -4, -10 held.
        due("at(0, 0)", b.at(0, 0), 1);
        due("at(0, 1)", b.at(0, 1), -10);
        due("at(0, 2)", b.at(0, 2), 1);
        due("at(0, 3)", b.at(0, 3), 1);
        due("at(0, 4)", b.at(0, 4), 0);
        due("at(0, 5)", b.at(0, 5), -1);
        due("at(0, 8)", b.at(0, 8), 1);
        // Step 1: the hand at 10, the ball at 2, -10: -8, -10 from it, 164 is above 121, root 12: -7, -9 held.
        due("at(1, 0)", b.at(1, 0), 3);
        due("at(1, 1)", b.at(1, 1), -9);
        due("at(1, 2)", b.at(1, 2), 2);
        due("at(1, 3)", b.at(1, 3), 1);
        due("at(1, 5)", b.at(1, 5), -1);
        // Step 2: the ball at 5, -9: -5, -9 from the hand, 106: slack, it turns by -1.
        due("at(2, 0)", b.at(2, 0), 5);
        due("at(2, 1)", b.at(2, 1), -9);
        due("at(2, 4)", b.at(2, 4), 15);
        due("at(2, 5)", b.at(2, 5), -1);
        due("at(2, 8)", b.at(2, 8), 0);
        // Step 3: pace -1: at 7, -10: -3, -10, 109: slack.
        due("at(3, 0)", b.at(3, 0), 7);
        due("at(3, 1)", b.at(3, 1), -10);
        due("at(3, 4)", b.at(3, 4), 14);
        // Step 4: pace -2: at 9, -12: -1, -12, 145: taut, root 12: 0, -11; the pace is 3, -1; it is turned back.
        due("at(4, 0)", b.at(4, 0), 10);
        due("at(4, 1)", b.at(4, 1), -11);
        due("at(4, 2)", b.at(4, 2), 3);
        due("at(4, 3)", b.at(4, 3), -1);
        due("at(4, 4)", b.at(4, 4), 0);
        due("at(4, 5)", b.at(4, 5), 1);
        due("at(4, 8)", b.at(4, 8), 1);
    }

    private static void endDue(BallInCup b, int cup, int step, int rims, int tauts) {
        due("end(0)", b.end(0), cup);
        due("end(1)", b.end(1), step);
        due("end(2)", b.end(2), rims);
        due("end(3)", b.end(3), tauts);
    }

    private static void end() {
        promise = 12;
        endDue(tossed("+0+00"), 0, 9, 0, 3);
        endDue(tossed("+0+10"), 0, 8, 0, 3);
        endDue(tossed("+0+40"), 0, 8, 0, 3);
        endDue(tossed("+0+50"), 0, 7, 0, 3);
        endDue(tossed("+0+90"), 0, 6, 0, 3);
        endDue(tossed("+0-50"), 0, 10, 0, 4);
        endDue(tossed("+0-90"), 0, 10, 0, 4);
        endDue(tossed("+9+90"), BallInCup.NONE, BallInCup.NONE, 0, 93);
        endDue(new BallInCup(), BallInCup.NONE, BallInCup.NONE, 0, 100);
        due("the cup ahead by step", tossed("+0+00;+0+30").end(0), 1);
        due("of two in one step the first", tossed("+0+20;+0+30").end(0), 0);
        due("of two in one step the first", tossed("+0+30;+0+20").end(0), 0);
        due("end(-1)", new BallInCup().end(-1), BallInCup.BAD);
        due("end(4)", new BallInCup().end(4), BallInCup.BAD);
        due("end(LOW)", new BallInCup().end(LOW), BallInCup.BAD);
    }

    private static void rims() {
        promise = 12;
        due("wide enough", tossed("-3+03").end(0), 0);
        due("1 too far", tossed("-3+02").end(2), 1);
        due("2 too far", tossed("+3+01").end(2), 1);
        due("3 too far", tossed("+3+00").end(2), 0);
        BallInCup rim = tossed("+2+00");
        due("at(9, 1)", rim.at(9, 1), 4);
        due("half of 5 up", rim.at(9, 3), 2);
        due("at(10, 1)", rim.at(10, 1), 5);
        due("a cup is met first, another one waits", tossed("+2+00;+0+00").end(0), BallInCup.NONE);
        due("a rim, then a cup that is lower", tossed("+2+10;+0+00").end(0), 1);
        due("twice a rim ahead", tossed("+2+10;+0+00").end(2), 2);
        due("with step 12", tossed("+2+10;+0+00").end(1), 12);
        BallInCup soft = made(13, 2, "-1-74", "1+1+5;4-5+1");
        endDue(soft, 0, 6, 0, soft.end(3));
        due("its pace by x is 6", Math.abs(soft.at(6, 2)), 6);
        soft.set(2, 5);
        due("too fast for 5", soft.end(2), 1);
        due("it is not caught there", soft.at(6, 3) >= 0 ? 1 : 0, 1);
        soft.set(2, 6);
        due("not too fast for 6", soft.end(0), 0);
        BallInCup along = made(10, 3, "+1-73", "1+2+8;5-1-3;3-2-1");
        due("its pace by x", along.at(7, 2), -7);
        due("but the hand goes along by -2", along.at(7, 6) - along.at(6, 6), -2);
        endDue(along, 0, 7, 0, along.end(3));
        along.set(2, 4);
        due("5 is too fast for 4", along.end(2) > 0 ? 1 : 0, 1);
    }

    private static void spikeDue(int cord, String cup, String pull, int turn, boolean isCaught) {
        BallInCup plain = made(cord, 1, cup, pull);
        BallInCup spike = made(cord, 1, cup + "s", pull);
        int step = plain.end(1);
        due("caught without a spike", plain.end(0), 0);
        due("the turn", plain.at(step, 4), turn);
        due("the spike by turn " + turn, spike.end(0) == 0 && spike.end(1) == step ? 1 : 0, isCaught ? 1 : 0);
        due("the rim by turn " + turn, spike.at(step, 3) >= 0 ? 1 : 0, isCaught ? 0 : 1);
    }

    private static void spikes() {
        promise = 12;
        spikeDue(23, "-7+45", "2+3+7;3-4+8", 14, false);
        spikeDue(11, "+4-82", "3+2+1;2+4+8", 15, true);
        spikeDue(28, "+6-74", "3+1+3;1-3+9", 15, true);
        spikeDue(10, "+0+00", "1+0+9", 0, true);
        spikeDue(12, "+0-95", "3-4+5", 1, true);
        spikeDue(16, "+8-13", "2-3+6;2+5+6", 2, false);
        spikeDue(15, "-5-52", "1+1+2;1-4+6", 9, false);
    }

    private static void count() {
        promise = 13;
        BallInCup b = made(30, 1, "+1+11;+2+22", "20+1+1;20+1+1;20+1+1;20+1+1;20+1+1;20+1+1");
        b.trick(1, 1, 1, 1);
        b.trick(1, 1, 1, 1);
        b.trick(1, 1, 1, 1);
        due("count(0)", b.count(0), 2);
        due("count(1)", b.count(1), 6);
        due("count(2)", b.count(2), 120);
        due("count(3)", b.count(3), 3);
        due("count(-1)", b.count(-1), BallInCup.BAD);
        due("count(4)", b.count(4), BallInCup.BAD);
        due("count(FAR)", b.count(FAR), BallInCup.BAD);
    }

    // ---- 2 the grid

    private static void ends() {
        promise = 14;
        BallInCup b = made(10, 1, "+0+00;+0-90", "1+7-7");
        due("ends(0, 9)", b.ends(0, 9), 0);
        due("ends(0, 0)", b.ends(0, 0), BallInCup.NONE);
        due("as told it goes elsewhere", b.end(0), BallInCup.NONE);
        due("u below", b.ends(-5, 0), BallInCup.BAD);
        due("u above", b.ends(5, 0), BallInCup.BAD);
        due("v below", b.ends(0, -1), BallInCup.BAD);
        due("v above", b.ends(0, 10), BallInCup.BAD);
        due("pull(0, 1) stays", b.pull(0, 1), 7);
        for (int u = -4; u <= 4; u++) {
            for (int v = 0; v <= 9; v++) {
                BallInCup told = made(10, 1, "+0+00;+0-90", "");
                told.part(1, u, v);
                due("ends(" + u + ", " + v + ")", b.ends(u, v), told.end(0));
            }
        }
        b.still();
        due("no part", b.ends(0, 9), BallInCup.NOT);
        due("BAD ahead of NOT", b.ends(5, 9), BallInCup.BAD);
    }

    /** The grid of a cup as ends() tells it, - where none ends in it. */
    private static String picture(BallInCup b, int cup) {
        StringBuilder picture = new StringBuilder();
        for (int u = -4; u <= 4; u++) {
            for (int v = 0; v <= 9; v++) {
                picture.append(b.ends(u, v) == cup ? 'o' : '-');
            }
            picture.append(u < 4 ? " " : "");
        }
        return picture.toString();
    }

    private static void same(String what, String got, String want) {
        due(what + ": " + got, got.equals(want) ? 1 : 0, 1);
    }

    private static void cells() {
        promise = 15;
        BallInCup b = made(11, 1, "+0+33;-1-12", "3-1+9;4-2+3");
        b.set(2, 9);
        same("the grid", picture(b, 0), "---------- ---------- ---------- --------o- ---------o"
            + " --------o- ------o-oo -----o---- o---o---oo");
        due("cells(0, 0)", b.cells(0, 0), 11);
        due("cells(0, 1)", b.cells(0, 1), 8);
        due("cells(0, 2)", b.cells(0, 2), 3);
        due("cells(1, 0)", b.cells(1, 0), 0);
        due("cells(1, 1)", b.cells(1, 1), 0);
        due("cells(1, 2)", b.cells(1, 2), 0);
        due("cells(0, 3)", b.cells(0, 3), BallInCup.BAD);
        due("cells(0, -1)", b.cells(0, -1), BallInCup.BAD);
        due("cells(2, 0)", b.cells(2, 0), BallInCup.BAD);
        due("cells(-1, 0)", b.cells(-1, 0), BallInCup.BAD);
        b.still();
        due("no part", b.cells(0, 0), BallInCup.NOT);
        due("BAD ahead of NOT", b.cells(2, 0), BallInCup.BAD);
        BallInCup none = tossed("+9+90");
        for (int what = 0; what < 3; what++) {
            due("none ends in it", none.cells(0, what), 0);
        }
    }

    private static void middle() {
        promise = 16;
        BallInCup b = made(16, 1, "+1-31s", "1-2+4;3+0+8");
        b.set(2, 2);
        same("the grid", picture(b, 0), "ooooo----- --------o- oooooooooo ooooooooo- oooooooooo"
            + " ooooooooo- oooooooooo oooooooooo oooooooooo");
        due("middle(0, 0)", b.middle(0, 0), 1);
        due("middle(0, 1)", b.middle(0, 1), 3);
        due("middle(0, 2)", b.middle(0, 2), 3);
        BallInCup c = made(18, 1, "-4-24;+3-22", "2-3+5;1+2+9");
        c.set(2, 7);
        same("the grid", picture(c, 0), "---------- oooooooooo oooooooooo -ooooooooo ----------"
            + " ---------- ---------- ---------- ----------");
        due("middle(0, 0)", c.middle(0, 0), -2);
        due("middle(0, 1)", c.middle(0, 1), 2);
        due("middle(0, 2)", c.middle(0, 2), 1);
        due("middle(2, 0)", c.middle(2, 0), -100001);
        due("middle(-1, 0)", c.middle(-1, 0), -100001);
        due("middle(0, 3)", c.middle(0, 3), -100001);
        due("middle(0, -1)", c.middle(0, -1), -100001);
        c.still();
        due("no part", c.middle(0, 0), -100002);
        due("BAD ahead of NOT", c.middle(0, 3), -100001);
        BallInCup none = tossed("+9+90");
        for (int what = 0; what < 3; what++) {
            due("none ends in it", none.middle(0, what), -100004);
        }
    }

    private static void gridDue(BallInCup b, String picture, int... wanted) {
        promise = 14;
        same("the grid", picture(b, 0), picture);
        for (int what = 0; what < 3; what++) {
            promise = 15;
            due("cells(0, " + what + ")", b.cells(0, what), wanted[what]);
            promise = 16;
            due("middle(0, " + what + ")", b.middle(0, what), wanted[3 + what]);
        }
    }

    /** Grids that reach the edges: how many, cells, the largest, then the middle. */
    private static void grids() {
        gridDue(made(10, 1, "+1-89", "2-1+5;2+1+2"), "o--ooooooo ----oooooo ---ooooooo ----oooooo ----oooooo"
            + " ----oooooo ----oooooo ---ooooooo oo--oooooo", 60, 3, 57, -2, 6, 2);
        gridDue(made(14, 1, "+3+23", "1-3+0;1-1+8"), "---------- ---------- ---------- ---------- ---------o"
            + " ooooooooo- ooooooooo- ooooooo--- ooooooooo-", 35, 2, 34, 2, 1, 1);
        gridDue(made(23, 1, "+1-99", "1+0+9;3+3+5;1+2+6"), "------o-o- ------ooo- -------oo- ------o-o- -------o--"
            + " -------o-o ---------o ---------o ---------o", 15, 4, 8, -4, 6, 0);
        gridDue(made(11, 2, "+0-93", "2+0+0"), "--------oo -------oo- ------o--- ----o---oo ----oooooo"
            + " ----o---oo ------o--- -------oo- --------oo", 22, 5, 12, -4, 8, 0);
        gridDue(made(11, 1, "+2+67", "2-2+8"), "---------o ---------o --------oo --------oo -------ooo"
            + " -------ooo -------ooo --------oo -------o-o", 19, 2, 18, 1, 8, 1);
        gridDue(made(10, 1, "-4+36", "1-3+7;2+0+9"), "---ooooooo oooooooooo oooooooooo oooooooooo oooooooooo"
            + " oooooooooo oooooooooo oooooooooo oooooooooo", 87, 1, 87, -1, 6, 3);
        gridDue(made(14, 2, "+2-69", "1-1+3;2+3+8"), "oooooooooo oooooooooo oooooooooo oooooooooo oooooooooo"
            + " oooooooooo oooooooooo oooooooooo -ooooooooo", 89, 1, 89, 0, 5, 4);
        gridDue(made(10, 2, "-3-96", "3-2+7;3+3+9;1-3+0"), "oooooooooo oooooooooo oooooooooo oooooooooo oooooooooo"
            + " oooooooooo oooooooooo oooooooooo oooooooooo", 90, 1, 90, 0, 4, 4);
        gridDue(made(13, 2, "-2+58", "2+0+7;2-2+7;3+1+9"), "o--------- ---------- ---------- ---------- ----------"
            + " ---------- ---------- ---------- ----------", 1, 1, 1, -4, 0, 0);
    }

    private static void mended() {
        promise = 17;
        BallInCup b = made(16, 1, "-2+02;+2+02", "2-2+6;4-1+8");
        int[][] due = {{70, 0}, {67, 0}, {14, 0}, {0, 0}};
        int[] steps = {0, 8, 12, 99};
        for (int i = 0; i < steps.length; i++) {
            due("mended(0, " + steps[i] + ")", b.mended(0, steps[i]), due[i][0]);
            due("mended(1, " + steps[i] + ")", b.mended(1, steps[i]), due[i][1]);
        }
        due("mended(0, -1)", b.mended(0, -1), BallInCup.BAD);
        due("mended(0, 100)", b.mended(0, 100), BallInCup.BAD);
        due("mended(2, 0)", b.mended(2, 0), BallInCup.BAD);
        due("mended(-1, 0)", b.mended(-1, 0), BallInCup.BAD);
        b.still();
        due("no part", b.mended(0, 0), BallInCup.NOT);
        due("BAD ahead of NOT", b.mended(0, 100), BallInCup.BAD);
    }

    private static void odds() {
        promise = 18;
        BallInCup b = made(18, 1, "-4-24;+3-22", "2-3+5;1+2+9");
        b.set(2, 7);
        due("odds(0)", b.odds(0), 12);
        due("odds(1)", b.odds(1), 0);
        due("odds(2)", b.odds(2), BallInCup.BAD);
        due("odds(-1)", b.odds(-1), BallInCup.BAD);
        due("odds(LOW)", b.odds(LOW), BallInCup.BAD);
        b.still();
        due("no part", b.odds(0), BallInCup.NOT);
        due("BAD ahead of NOT", b.odds(2), BallInCup.BAD);
        int[] weights = {1, 2, 1};
        int sum = 0;
        for (int du = -1; du <= 1; du++) {
            for (int dv = -1; dv <= 1; dv++) {
                BallInCup told = made(11, 1, "+1+33s", "");
                told.set(2, 2);
                told.part(2, 2 + du, 6 + dv);
                told.part(2, -1, 6);
                sum += told.end(0) == 0 ? weights[du + 1] * weights[dv + 1] : 0;
            }
        }
        BallInCup wander = made(11, 1, "+1+33s", "2+2+6;2-1+6");
        wander.set(2, 2);
        due("as the nine pulls say", wander.odds(0), sum);
        due("and these say", sum, 12);
        // Up by 8, 9 and 10: 10 is beyond what may be told.
        due("beyond 9", made(10, 1, "+0+09", "1+0+9").odds(0), 16);
    }

    // ---- 3 which, most, sizes

    private static void which() {
        promise = 19;
        BallInCup b = new BallInCup();
        due("no part", b.which(), BallInCup.NOT);
        b.cup(0, 0, 0, 0, false);
        due("no part", b.which(), BallInCup.NOT);
        BallInCup noCups = made(10, 1, "", "1+0+9");
        due("no cups", noCups.which(), BallInCup.NONE);
        due("all 0: the least", tossed("+9+90;+9+91").which(), 0);
        BallInCup two = made(20, 1, "+4-32;-1+43s", "3+0+9");
        two.set(2, 2);
        due("odds(0)", two.odds(0), 1);
        due("odds(1)", two.odds(1), 8);
        due("which()", two.which(), 1);
        BallInCup worth = made(20, 1, "+4-32:99;-1+43s:1", "3+0+9");
        worth.set(2, 2);
        due("by worth", worth.which(), 0);
        BallInCup nothing = made(20, 1, "+4-32:1;-1+43s:0", "3+0+9");
        nothing.set(2, 2);
        due("worth nothing", nothing.which(), 0);
    }

    private static void trick() {
        promise = 20;
        BallInCup b = new BallInCup();
        due("odds below", b.trick(-1, 1, 0, 1), BallInCup.BAD);
        due("odds above", b.trick(17, 1, 0, 1), BallInCup.BAD);
        due("seconds below", b.trick(0, 0, 0, 1), BallInCup.BAD);
        due("seconds above", b.trick(0, 61, 0, 1), BallInCup.BAD);
        due("worth below", b.trick(0, 1, -1, 1), BallInCup.BAD);
        due("worth above", b.trick(0, 1, 100, 1), BallInCup.BAD);
        due("may below", b.trick(0, 1, 0, 0), BallInCup.BAD);
        due("may above", b.trick(0, 1, 0, 10), BallInCup.BAD);
        due("count(3)", b.count(3), 0);
        due("trick 0", b.trick(0, 1, 0, 1), 0);
        due("trick 1", b.trick(16, 60, 99, 9), 1);
        for (int i = 2; i < 8; i++) {
            due("trick " + i, b.trick(1, 1, 1, 1), i);
        }
        due("trick 8", b.trick(1, 1, 1, 1), BallInCup.FULL);
        due("BAD ahead of FULL", b.trick(1, 0, 1, 1), BallInCup.BAD);
        due("most(60, -1)", b.most(60, -1), 1584);

        promise = 23;
        due("clear()", b.clear(), 8);
        due("count(3)", b.count(3), 0);
        due("most(60, -1)", b.most(60, -1), 0);
        due("most(60, 0)", b.most(60, 0), BallInCup.BAD);
        due("clear()", b.clear(), 0);
        due("trick 0", b.trick(1, 1, 1, 1), 0);
    }

    private static void mostDue(BallInCup b, int time, int... wanted) {
        for (int i = 0; i < wanted.length; i++) {
            due("most(" + time + ", " + (i - 1) + ")", b.most(time, i - 1), wanted[i]);
        }
    }

    private static void most() {
        promise = 21;
        BallInCup b = new BallInCup();
        mostDue(b, 0, 0);
        mostDue(b, 180, 0);
        b.trick(16, 6, 3, 2);
        b.trick(8, 5, 5, 3);
        b.trick(8, 4, 4, 9);
        mostDue(b, 0, 0, 0, 0, 0);
        mostDue(b, 3, 0, 0, 0, 0);
        mostDue(b, 4, 32, 0, 0, 1);
        mostDue(b, 5, 40, 0, 1, 0);
        mostDue(b, 6, 48, 1, 0, 0);
        mostDue(b, 10, 80, 1, 0, 1);
        mostDue(b, 12, 96, 2, 0, 0);
        mostDue(b, 13, 104, 0, 1, 2);
        mostDue(b, 180, 504, 2, 3, 9);
        due("most(-1, -1)", b.most(-1, -1), BallInCup.BAD);
        due("most(181, -1)", b.most(181, -1), BallInCup.BAD);
        due("most(0, -2)", b.most(0, -2), BallInCup.BAD);
        due("most(0, 3)", b.most(0, 3), BallInCup.BAD);
        due("most(FAR, LOW)", b.most(FAR, LOW), BallInCup.BAD);
        b.clear();
        b.trick(0, 7, 50, 3);
        b.trick(16, 10, 1, 9);
        b.trick(10, 2, 0, 4);
        mostDue(b, 30, 48, 0, 3, 0);
        mostDue(b, 39, 48, 1, 3, 1);
        mostDue(b, 29, 32, 1, 2, 1);
    }

    private static void row() {
        promise = 22;
        BallInCup b = new BallInCup();
        b.trick(16, 1, 1, 1);
        b.trick(15, 1, 1, 1);
        b.trick(9, 1, 1, 1);
        b.trick(0, 1, 1, 1);
        due("row(0, 99)", b.row(0, 99), 1000);
        due("row(1, 1)", b.row(1, 1), 937);
        due("row(1, 2)", b.row(1, 2), 878);
        due("row(1, 3)", b.row(1, 3), 823);
        due("row(2, 1)", b.row(2, 1), 562);
        due("row(2, 2)", b.row(2, 2), 316);
        due("row(2, 3)", b.row(2, 3), 177);
        due("row(2, 4)", b.row(2, 4), 99);
        due("row(2, 99)", b.row(2, 99), 0);
        due("row(3, 1)", b.row(3, 1), 0);
        due("row(0, 0)", b.row(0, 0), BallInCup.BAD);
        due("row(0, 100)", b.row(0, 100), BallInCup.BAD);
        due("row(4, 1)", b.row(4, 1), BallInCup.BAD);
        due("row(-1, 1)", b.row(-1, 1), BallInCup.BAD);
    }

    private static void cord() {
        promise = 24;
        BallInCup b = made(50, 1, "+0+02", "1+0+9");
        int best = 10;
        int most = -1;
        for (int cord = 10; cord <= 60; cord++) {
            b.set(0, cord);
            if (b.odds(0) > most) {
                most = b.odds(0);
                best = cord;
            }
        }
        b.set(0, 50);
        due("cord(0, 0)", b.cord(0, 0), best);
        due("cord(0, 1)", b.cord(0, 1), most);
        due("the best is", best * 100 + most, 1312);
        due("the cord told stays", b.set(0, 50), 50);
        BallInCup hanging = made(30, 1, "+9+90", "1+0+0");
        due("none is good: the least", hanging.cord(0, 0), 10);
        due("none is good", hanging.cord(0, 1), 0);
        BallInCup longest = made(30, 1, "-5+33", "12-4-9;14+4+6");
        due("the longest", longest.cord(0, 0), 60);
        due("the longest", longest.cord(0, 1), 8);
        due("cord(0, 2)", b.cord(0, 2), BallInCup.BAD);
        due("cord(0, -1)", b.cord(0, -1), BallInCup.BAD);
        due("cord(1, 0)", b.cord(1, 0), BallInCup.BAD);
        due("cord(-1, 0)", b.cord(-1, 0), BallInCup.BAD);
        b.still();
        due("no part", b.cord(0, 0), BallInCup.NOT);
        due("BAD ahead of NOT", b.cord(1, 0), BallInCup.BAD);
    }

    private static void down() {
        promise = 25;
        // The ball's pace less the hand's: 0, 8, 7, 5, 0, -1, -2, -3, -4, -5, -5, 0 behind steps 0 to 11.
        BallInCup b = tossed("+0+09");
        due("down(0, 0)", b.down(0, 0), 0);
        due("down(1, 0)", b.down(1, 0), 4);
        due("down(1, 4)", b.down(1, 4), 4);
        due("down(1, 5)", b.down(1, 5), 3);
        due("down(1, 7)", b.down(1, 7), 2);
        due("down(1, 8)", b.down(1, 8), 1);
        due("nothing is met", b.down(5, 0), 11);
        due("down(6, 1)", b.down(6, 1), 11);
        due("down(6, 2)", b.down(6, 2), 6);
        due("down(99, 99)", b.down(99, 99), 99);
        BallInCup aside = made(11, 1, "", "2+5+0");
        // Behind step 0 the pace less the hand's is -4, 1, behind step 1 -3, 1.
        due("by x too", aside.down(0, 3), 1);
        due("by x too", aside.down(0, 4), 0);
        BallInCup never = made(60, 1, "", "20+9+9;20+9+9;20+9+9;20+9+9;19+9+9;20-9-9");
        due("down(98, 0)", never.down(98, 0), 98);
        due("down(99, 0)", never.down(99, 0), BallInCup.NONE);
        due("down(-1, 0)", b.down(-1, 0), BallInCup.BAD);
        due("down(100, 0)", b.down(100, 0), BallInCup.BAD);
        due("down(0, -1)", b.down(0, -1), BallInCup.BAD);
        due("down(0, 100)", b.down(0, 100), BallInCup.BAD);
    }

    private static void filmed() {
        promise = 26;
        BallInCup b = tossed("+0+00");
        int[] places = {0, -1, 0, 7, 0, 14};
        for (int lane = 0; lane < 3; lane++) {
            b.sheet(lane, lane, 9);
            for (int i = 0; i < places.length; i++) {
                b.item(lane, lane, 3 + i, places[i]);
            }
            due("how many", b.filmed(lane, lane, 3, 3, 0), 1);
            due("u", b.filmed(lane, lane, 3, 3, 1), 0);
            due("v", b.filmed(lane, lane, 3, 3, 2), 9);
            due("one place", b.filmed(lane, lane, 3, 1, 0), 1);
            due("other places", b.filmed(lane, lane, 2, 3, 0), 0);
            due("other places", b.filmed(lane, lane, 2, 3, 1), -100004);
            due("other places", b.filmed(lane, lane, 2, 3, 2), -100004);
        }
        b.item(2, 2, 8, 15);
        due("the last y is another", b.filmed(2, 2, 3, 3, 0), 0);
        b.item(2, 2, 8, 14);
        b.item(2, 2, 7, 1);
        due("the last x is another", b.filmed(2, 2, 3, 3, 0), 0);
        due("but not the places ahead", b.filmed(2, 2, 3, 2, 0), 1);
        due("sheet above", b.filmed(4, 2, 0, 1, 0), -100001);
        due("sheet below", b.filmed(-1, 2, 0, 1, 0), -100001);
        due("lane above", b.filmed(2, 3, 0, 1, 0), -100001);
        due("lane below", b.filmed(2, -1, 0, 1, 0), -100001);
        due("n below", b.filmed(2, 2, 0, 0, 0), -100001);
        due("n above", b.filmed(2, 2, 0, 13, 0), -100001);
        due("what above", b.filmed(2, 2, 0, 1, 3), -100001);
        due("what below", b.filmed(2, 2, 0, 1, -1), -100001);
        due("NULL ahead of INDEX", b.filmed(3, 2, -1, 1, 0), -100011);
        due("CAST ahead of INDEX", b.filmed(2, 1, -1, 1, 0), -100012);
        due("i below", b.filmed(2, 2, -1, 1, 0), -100013);
        due("i above", b.filmed(2, 2, 8, 1, 0), -100013);
        due("i far above", b.filmed(2, 2, FAR, 12, 0), -100013);
        due("i at the last", b.filmed(2, 2, 7, 1, 0), 0);
        b.still();
        due("INDEX ahead of NOT", b.filmed(2, 2, 8, 1, 0), -100013);
        due("NOT ahead of NONE", b.filmed(2, 2, 7, 1, 1), -100002);

        BallInCup many = made(10, 1, "", "1+0+9");
        many.sheet(0, 2, 24);
        many.film(0, 2, 0, 1);
        int alike = 0;
        for (int u = -4; u <= 4; u++) {
            for (int v = 0; v <= 9; v++) {
                BallInCup told = made(10, 1, "", "");
                told.part(1, u, v);
                alike += told.at(0, 0) == 0 && told.at(0, 1) == -1 ? 1 : 0;
            }
        }
        due("as the 90 pulls say", many.filmed(0, 2, 0, 1, 0), alike);
        filmedAlike();
    }

    /** By a long cord and one step, pulls next to one another bring the ball to the same place. */
    private static void filmedAlike() {
        BallInCup b = made(40, 1, "", "1+0+0");
        b.sheet(0, 1, 2);
        b.item(0, 1, 0, 1);
        b.item(0, 1, 1, -39);
        int count = 0;
        int first = -1;
        for (int pull = 0; pull < 90; pull++) {
            BallInCup told = made(40, 1, "", "");
            told.part(1, pull / 10 - 4, pull % 10);
            if (told.at(0, 0) == 1 && told.at(0, 1) == -39) {
                first = count == 0 ? pull : first;
                count++;
            }
        }
        due("how many look alike", count > 1 ? 1 : 0, 1);
        due("filmed(.., 0)", b.filmed(0, 1, 0, 1, 0), count);
        due("filmed(.., 1)", b.filmed(0, 1, 0, 1, 1), first / 10 - 4);
        due("filmed(.., 2)", b.filmed(0, 1, 0, 1, 2), first % 10);
        for (int u = -4; u <= 4; u += 4) {
            for (int v = 0; v <= 9; v += 9) {
                BallInCup edge = made(10, 1, "", "");
                edge.part(3, u, v);
                edge.sheet(3, 1, 24);
                edge.film(3, 1, 0, 12);
                due("how many by edge", edge.filmed(3, 1, 0, 12, 0), 1);
                due("u of the edge", edge.filmed(3, 1, 0, 12, 1), u);
                due("v of the edge", edge.filmed(3, 1, 0, 12, 2), v);
            }
        }
    }

    private static void image() {
        promise = 27;
        BallInCup b = made(20, 2, "+1+23:4;-1-2 3s", "2+1+3;4-1-5");
        b.set(2, 9);
        b.trick(15, 6, 7, 8);
        due("image()", b.image(), 1);
        promise = 28;
        for (int time = 0; time < 2; time++) {
            b.set(0, 60);
            b.set(1, 4);
            b.set(2, 20);
            toyOf(b, "+5+50");
            pullOf(b, "9+9+9;8+8+8;7+7+7");
            b.clear();
            b.trick(1, 1, 1, 1);
            b.trick(2, 2, 2, 2);
            b.sheet(0, 2, 5 + time);
            typed(b, "+1");
            due("restore()", b.restore(), 1);
            due("set(0, 20)", b.set(0, 20), 20);
            due("set(1, 2)", b.set(1, 2), 2);
            due("set(2, 9)", b.set(2, 9), 9);
            due("count(0)", b.count(0), 2);
            due("told(0, 3)", b.told(0, 3), 4);
            due("told(1, 4)", b.told(1, 4), 1);
            due("count(1)", b.count(1), 2);
            due("pull(1, 2)", b.pull(1, 2), -5);
            due("count(3)", b.count(3), 1);
            due("most(48, 0)", b.most(48, 0), 8);
            due("row(0, 1)", b.row(0, 1), 937);
            due("the tape stays", typed(b, "+23"), 5);
            due("the tape stays", b.toy(), 1);
            due("a sheet stays", b.drop(0), 5 + time);
        }
        b.still();
        due("a second image", b.image(), 1);
        b.part(1, 1, 1);
        due("restore()", b.restore(), 1);
        due("it is in place of the first", b.count(1), 0);
        due("it is in place of the first", b.count(0), 1);
        due("none on a new object", new BallInCup().restore(), BallInCup.NONE);
    }

    // ---- 4 sheets

    private static void film() {
        promise = 29;
        BallInCup b = tossed("+0+00");
        b.sheet(0, 1, 24);
        due("film(..)", b.film(0, 1, 0, 12), 24);
        due("what it shows", b.filmed(0, 1, 0, 12, 0), 1);
        due("what it shows", b.filmed(0, 1, 0, 12, 2), 9);
        due("film(..)", b.film(0, 1, 2, 2), 4);
        due("from item 2 on", b.filmed(0, 1, 2, 2, 2), 9);
        due("those behind stay", b.filmed(0, 1, 0, 12, 0), 0);
        b.item(0, 1, 2, 0);
        b.item(0, 1, 3, 7);
        b.item(0, 1, 4, 0);
        b.item(0, 1, 5, 14);
        due("those behind stay", b.filmed(0, 1, 0, 12, 0), 1);
        due("sheet above", b.film(4, 1, 0, 1), BallInCup.BAD);
        due("sheet below", b.film(-1, 1, 0, 1), BallInCup.BAD);
        due("lane above", b.film(0, 3, 0, 1), BallInCup.BAD);
        due("lane below", b.film(0, -1, 0, 1), BallInCup.BAD);
        due("n below", b.film(0, 1, 0, 0), BallInCup.BAD);
        due("n above", b.film(0, 1, 0, 13), BallInCup.BAD);
        due("NULL", b.film(1, 1, -1, 1), BallInCup.NULL);
        due("CAST", b.film(0, 2, -1, 1), BallInCup.CAST);
        due("i below", b.film(0, 1, -1, 1), BallInCup.INDEX);
        due("i above", b.film(0, 1, 23, 1), BallInCup.INDEX);
        due("i far above", b.film(0, 1, FAR, 12), BallInCup.INDEX);
        due("what is refused changes nothing", b.filmed(0, 1, 0, 12, 0), 1);
        due("i at the last", b.film(0, 1, 22, 1), 2);
        due("no part is needed", new BallInCup().film(0, 1, 0, 1), BallInCup.NULL);

        // Bytes: the ball at -158 is told as 98, where 12 steps up by 9 bring it.
        BallInCup deep = made(59, 4, "", "1+0+0;11+0-9");
        due("at(11, 1)", deep.at(11, 1), -158);
        deep.sheet(0, 0, 24);
        deep.film(0, 0, 0, 12);
        due("a byte can't show -158", deep.filmed(0, 0, 0, 12, 0), 0);
        deep.set(0, 10);
        deep.set(1, 1);
        pullOf(deep, "12+0+9");
        due("at(11, 1)", deep.at(11, 1), 98);
        deep.sheet(1, 0, 24);
        deep.film(1, 0, 0, 12);
        deep.item(1, 0, 23, 0);
        due("with another y", deep.filmed(1, 0, 0, 12, 0), 0);
        deep.copy(0, 23, 1, 23, 1);
        due("its lowest bits", deep.filmed(1, 0, 0, 12, 0), 1);
    }

    private static void sheet() {
        promise = 30;
        BallInCup b = new BallInCup();
        due("sheet(0, 0, 0)", b.sheet(0, 0, 0), 0);
        due("sheet(3, 2, 24)", b.sheet(3, 2, 24), 24);
        due("sheet above", b.sheet(4, 0, 1), BallInCup.BAD);
        due("sheet below", b.sheet(-1, 0, 1), BallInCup.BAD);
        due("lane above", b.sheet(0, 3, 1), BallInCup.BAD);
        due("lane below", b.sheet(0, -1, 1), BallInCup.BAD);
        due("n above", b.sheet(0, 0, 25), BallInCup.BAD);
        due("n far above", b.sheet(0, 0, FAR), BallInCup.BAD);
        due("n below", b.sheet(3, 0, -1), BallInCup.SIZE);
        due("n far below", b.sheet(3, 0, LOW), BallInCup.SIZE);
        due("BAD ahead of SIZE", b.sheet(4, 0, -1), BallInCup.BAD);
        due("what is refused changes nothing", b.item(3, 2, 23, 1), 1);
        // A new row is all 0: with no pace the ball of a cord of 10 can't be at 0, 0; up by 10 it could.
        due("a new row", b.sheet(3, 2, 2), 2);
        due("of another lane", b.sheet(3, 1, 3), 3);
        due("of another lane", b.item(3, 2, 0, 1), BallInCup.CAST);

        promise = 31;
        due("drop(3)", b.drop(3), 3);
        due("drop(3)", b.drop(3), BallInCup.NULL);
        due("drop(0)", b.drop(0), 0);
        due("drop(1)", b.drop(1), BallInCup.NULL);
        due("drop(4)", b.drop(4), BallInCup.BAD);
        due("drop(-1)", b.drop(-1), BallInCup.BAD);
        due("drop(LOW)", b.drop(LOW), BallInCup.BAD);
        due("item of nothing", b.item(3, 1, 0, 1), BallInCup.NULL);

        promise = 30;
        BallInCup zero = tossed("");
        zero.sheet(0, 2, 2);
        zero.film(0, 2, 0, 1);
        due("the place 0, -1", zero.filmed(0, 2, 0, 1, 0), 1);
        zero.sheet(0, 2, 2);
        zero.item(0, 2, 1, -1);
        due("x of a new row is 0", zero.filmed(0, 2, 0, 1, 0), 1);
        zero.item(0, 2, 0, 5);
        zero.drop(0);
        zero.sheet(0, 2, 2);
        zero.item(0, 2, 1, -1);
        due("x of a new row is 0", zero.filmed(0, 2, 0, 1, 0), 1);
    }

    private static void item() {
        promise = 32;
        BallInCup b = tossed("");
        int[] cut = {0x12345600, 0x12340000, 0};
        for (int lane = 0; lane < 3; lane++) {
            b.sheet(0, lane, 2);
            due("item 0", b.item(0, lane, 0, cut[lane]), 1);
            due("item 1", b.item(0, lane, 1, cut[lane] - 1), 1);
            due("their lowest bits", b.filmed(0, lane, 0, 1, 0), 1);
        }
        b.item(0, 2, 1, 255);
        due("an int is whole", b.filmed(0, 2, 0, 1, 0), 0);
        b.item(0, 2, 1, 65535);
        due("an int is whole", b.filmed(0, 2, 0, 1, 0), 0);
        b.sheet(1, 1, 2);
        b.item(1, 1, 1, 255);
        due("a short has 16 bits", b.filmed(1, 1, 0, 1, 0), 0);
        due("sheet above", b.item(4, 0, 0, 0), BallInCup.BAD);
        due("sheet below", b.item(-1, 0, 0, 0), BallInCup.BAD);
        due("lane above", b.item(0, 3, 0, 0), BallInCup.BAD);
        due("lane below", b.item(0, -1, 0, 0), BallInCup.BAD);
        due("BAD ahead of NULL", b.item(3, 3, 0, 0), BallInCup.BAD);
        due("NULL ahead of INDEX", b.item(3, 0, -1, 0), BallInCup.NULL);
        due("CAST ahead of INDEX", b.item(0, 0, -1, 0), BallInCup.CAST);
        due("i below", b.item(0, 2, -1, 0), BallInCup.INDEX);
        due("i above", b.item(0, 2, 2, 0), BallInCup.INDEX);
        due("i far below", b.item(0, 2, LOW, 0), BallInCup.INDEX);
        due("i far above", b.item(0, 2, FAR, 0), BallInCup.INDEX);
        b.sheet(2, 0, 0);
        due("of no items", b.item(2, 0, 0, 0), BallInCup.INDEX);
    }

    private static void copy() {
        promise = 33;
        BallInCup b = tossed("");
        b.sheet(0, 1, 8);
        b.sheet(1, 1, 6);
        b.film(0, 1, 0, 3);
        due("copy(0, 0, 1, 0, 6)", b.copy(0, 0, 1, 0, 6), 6);
        due("what came", b.filmed(1, 1, 0, 3, 2), 9);
        due("within a sheet, upwards", b.copy(0, 0, 0, 2, 6), 6);
        due("as if all were taken ahead", b.filmed(0, 1, 2, 3, 2), 9);
        due("within a sheet, downwards", b.copy(0, 2, 0, 1, 6), 6);
        due("as if all were taken ahead", b.filmed(0, 1, 1, 3, 2), 9);
        due("none", b.copy(0, 8, 1, 6, 0), 0);
        due("none, i above", b.copy(0, 9, 1, 6, 0), BallInCup.INDEX);
        due("none, j above", b.copy(0, 8, 1, 7, 0), BallInCup.INDEX);
        due("none, i below", b.copy(0, -1, 1, 0, 0), BallInCup.INDEX);
        due("none, j below", b.copy(0, 0, 1, -1, 0), BallInCup.INDEX);
        due("n below", b.copy(0, 1, 1, 1, -1), BallInCup.INDEX);
        due("n far below", b.copy(0, 1, 1, 1, LOW), BallInCup.INDEX);
        due("n far above", b.copy(0, 1, 1, 1, FAR), BallInCup.INDEX);
        due("i and n", b.copy(0, 3, 1, 0, 6), BallInCup.INDEX);
        due("j and n", b.copy(0, 0, 1, 1, 6), BallInCup.INDEX);
        due("i far above", b.copy(0, FAR, 1, 0, 1), BallInCup.INDEX);
        due("j far above", b.copy(0, 0, 1, FAR, 1), BallInCup.INDEX);
        due("what is refused changes nothing", b.filmed(1, 1, 0, 3, 2), 9);
        b.sheet(2, 2, 6);
        due("CAST ahead of INDEX", b.copy(0, -1, 2, 0, 1), BallInCup.CAST);
        due("NULL from", b.copy(3, 0, 0, 0, 1), BallInCup.NULL);
        due("NULL to", b.copy(0, 0, 3, 0, 1), BallInCup.NULL);
        due("NULL ahead of INDEX", b.copy(3, -1, 3, -1, -1), BallInCup.NULL);
        due("from above", b.copy(4, 0, 0, 0, 1), BallInCup.BAD);
        due("from below", b.copy(-1, 0, 0, 0, 1), BallInCup.BAD);
        due("to above", b.copy(0, 0, 4, 0, 1), BallInCup.BAD);
        due("to below", b.copy(0, 0, -1, 0, 1), BallInCup.BAD);
        due("BAD ahead of NULL", b.copy(3, 0, 4, 0, 1), BallInCup.BAD);
    }
}
