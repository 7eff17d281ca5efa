import java.util.ArrayList;
import java.util.Arrays;
import java.util.HashMap;
import java.util.List;
import java.util.Map;
import java.util.Random;

/** Long random runs against a second, plainer writing of the document: every answer has to be the same. */
public final class ModelTest {
    private static final int RUNS = 200;
    private static final int CALLS = 200;
    private static int wrong = 0;

    public static void main(String[] args) {
        long calls = 0;
        for (int run = 0; run < RUNS && wrong < 20; run++) {
            calls += new Run(run).go();
        }
        System.out.println(wrong == 0 ? calls + " answers are as the model's" : wrong + " runs are not as the model's");
        if (wrong != 0) {
            System.exit(1);
        }
    }

    // ---- the random runs

    private static final class Run {
        private final int seed;
        private final Random random;
        private final BallInCup real = new BallInCup();
        private final Model model = new Model();

        Run(int seed) {
            this.seed = seed;
            random = new Random(seed * 7919L + 13);
        }

        int go() {
            StringBuilder told = new StringBuilder();
            for (int i = 0; i < CALLS; i++) {
                String call = oneCall();
                told.append(call).append('\n');
                if (call.endsWith("WRONG")) {
                    wrong++;
                    System.out.println("run " + seed + ":\n" + told);
                    return i + 1;
                }
            }
            return CALLS;
        }

        private int in(int least, int most) {
            return least + random.nextInt(most - least + 1);
        }

        /** Mostly in the range, at times just outside, rarely far away. */
        private int near(int least, int most) {
            int kind = random.nextInt(60);
            if (kind == 0) {
                return least - 1;
            }
            if (kind == 1) {
                return most + 1;
            }
            if (kind == 2) {
                return random.nextBoolean() ? Integer.MIN_VALUE : Integer.MAX_VALUE;
            }
            return in(least, most);
        }

        private int cupNumber() {
            return random.nextInt(25) == 0 ? near(-1, 4) : in(0, Math.max(0, model.cups.size() - 1));
        }

        private String oneCall() {
            int kind = random.nextInt(100);
            if (kind < 28) {
                return toyCall(random.nextInt(8));
            }
            if (kind < 40) {
                return textCall();
            }
            if (kind < 60) {
                return askCall(random.nextInt(7));
            }
            if (kind < 76) {
                return gridCall(random.nextInt(9));
            }
            if (kind < 86) {
                return trickCall(random.nextInt(7));
            }
            return sheetCall(random.nextInt(8));
        }

        private String toyCall(int kind) {
            switch (kind) {
                case 0: {
                    int what = near(0, 2);
                    int v = what == 0 ? near(10, random.nextBoolean() ? 20 : 60) : what == 1 ? near(1, 4) : near(0, 20);
                    return same("set", real.set(what, v), model.set(what, v), what, v);
                }
                case 1: case 2: {
                    int x = near(-4, 4);
                    int y = near(-9, 9);
                    int wide = near(0, 9);
                    int worth = near(0, 99);
                    boolean spike = random.nextInt(3) == 0;
                    return same("cup", real.cup(x, y, wide, worth, spike), model.cup(x, y, wide, worth, spike),
                        x, y, wide, worth, spike ? 1 : 0);
                }
                case 3: {
                    int cup = near(0, 3);
                    int what = near(0, 4);
                    return same("told", real.told(cup, what), model.told(cup, what), cup, what);
                }
                case 4: case 5: {
                    int steps = random.nextInt(3) > 0 ? near(1, 4) : near(1, 20);
                    int u = random.nextInt(3) > 0 ? near(-3, 3) : near(-9, 9);
                    int v = random.nextInt(3) > 0 ? near(0, 9) : near(-9, 9);
                    return same("part", real.part(steps, u, v), model.part(steps, u, v), steps, u, v);
                }
                case 6: {
                    int part = near(0, 5);
                    int what = near(0, 2);
                    return same("pull", real.pull(part, what), model.pull(part, what), part, what);
                }
                default:
                    return random.nextInt(3) == 0 ? same("still", real.still(), model.still()) : oneCall();
            }
        }

        private String textCall() {
            boolean isToy = random.nextBoolean();
            String text = isToy ? toyText() : pullText();
            if (random.nextInt(2) == 0) {
                text = spoiled(text);
            }
            StringBuilder told = new StringBuilder();
            for (int i = 0; i < text.length(); ) {
                int n = Math.min(in(1, 8), text.length() - i);
                long w = random.nextInt(4) == 0 ? random.nextLong() : 0;
                for (int k = 0; k < n; k++) {
                    w = w << 8 | text.charAt(i + k);
                }
                int m = random.nextInt(80) == 0 ? in(-1, 10) : n;
                String call = same("type", real.type(w, m), model.type(w, m), w, m);
                told.append(call).append('\n');
                if (call.endsWith("WRONG")) {
                    return told.toString().trim();
                }
                i += n;
            }
            if (random.nextInt(12) == 0) {
                return told.append("(left)").toString();
            }
            boolean readsToy = random.nextInt(20) == 0 ? !isToy : isToy;
            told.append(readsToy ? same("toy", real.toy(), model.toy()) : same("pulls", real.pulls(), model.pulls()));
            return told.toString();
        }

        private String signed(int most) {
            return (random.nextBoolean() ? "+" : "-") + in(0, most);
        }

        private String toyText() {
            int cups = in(1, random.nextInt(6) == 0 ? 5 : 4);
            StringBuilder text = new StringBuilder();
            for (int i = 0; i < cups; i++) {
                text.append(i == 0 ? "" : ";").append(signed(5)).append(signed(9)).append(in(0, 9));
                text.append(random.nextInt(3) == 0 ? "s" : "");
                if (random.nextInt(3) == 0) {
                    text.append(":").append(random.nextInt(3) == 0 ? "0" : "").append(in(0, random.nextInt(4) == 0 ? 120 : 99));
                }
            }
            return text.toString();
        }

        private String pullText() {
            int parts = in(1, random.nextInt(6) == 0 ? 7 : 5);
            StringBuilder text = new StringBuilder();
            for (int i = 0; i < parts; i++) {
                text.append(i == 0 ? "" : ";").append(random.nextInt(5) == 0 ? "00" : "");
                text.append(in(random.nextInt(30) == 0 ? 0 : 1, random.nextInt(30) == 0 ? 300 : random.nextInt(3) == 0 ? 20 : 5));
                text.append(signed(4)).append(signed(9));
            }
            return text.toString();
        }

        private String spoiled(String text) {
            StringBuilder b = new StringBuilder(text);
            for (int k = in(1, 3); k > 0; k--) {
                int place = in(0, b.length());
                int kind = random.nextInt(6);
                if (kind < 3) {
                    b.insert(place, ' ');
                } else if (kind == 3) {
                    b.insert(place, "+-;:s0123456789x".charAt(random.nextInt(16)));
                } else if (kind == 4 && place < b.length()) {
                    b.deleteCharAt(place);
                } else if (place < b.length()) {
                    b.setCharAt(place, (char) in(random.nextInt(9) == 0 ? 30 : 32, random.nextInt(9) == 0 ? 128 : 126));
                }
            }
            return b.toString();
        }

        private String askCall(int kind) {
            switch (kind) {
                case 0: case 1: case 2: {
                    int step = near(0, random.nextBoolean() ? 30 : 99);
                    int what = near(0, 8);
                    return same("at", real.at(step, what), model.at(step, what), step, what);
                }
                case 3: case 4: {
                    int what = near(0, 3);
                    return same("end", real.end(what), model.end(what), what);
                }
                case 5: {
                    int what = near(0, 3);
                    return same("count", real.count(what), model.count(what), what);
                }
                default: {
                    int step = near(0, random.nextBoolean() ? 20 : 99);
                    int pace = random.nextInt(3) > 0 ? near(0, 4) : near(0, 99);
                    return same("down", real.down(step, pace), model.down(step, pace), step, pace);
                }
            }
        }

        private String gridCall(int kind) {
            int cup = cupNumber();
            int what = near(0, 2);
            switch (kind) {
                case 0: case 1: {
                    int u = near(-4, 4);
                    int v = near(0, 9);
                    return same("ends", real.ends(u, v), model.ends(u, v), u, v);
                }
                case 2:
                    return same("cells", real.cells(cup, what), model.cells(cup, what), cup, what);
                case 3:
                    return same("middle", real.middle(cup, what), model.middle(cup, what), cup, what);
                case 4: {
                    int step = near(0, random.nextInt(3) > 0 ? 15 : 99);
                    return same("mended", real.mended(cup, step), model.mended(cup, step), cup, step);
                }
                case 5:
                    return same("odds", real.odds(cup), model.odds(cup), cup);
                case 6:
                    return same("which", real.which(), model.which());
                case 7: {
                    int which = near(0, 1);
                    return same("cord", real.cord(cup, which), model.cord(cup, which), cup, which);
                }
                default:
                    return random.nextBoolean() ? same("image", real.image(), model.image())
                        : same("restore", real.restore(), model.restore());
            }
        }

        private String trickCall(int kind) {
            switch (kind) {
                case 0: case 1: case 2: {
                    int odds = near(0, 16);
                    int seconds = random.nextBoolean() ? near(1, 9) : near(1, 60);
                    int worth = random.nextBoolean() ? near(0, 3) : near(0, 99);
                    int may = near(1, 9);
                    return same("trick", real.trick(odds, seconds, worth, may), model.trick(odds, seconds, worth, may),
                        odds, seconds, worth, may);
                }
                case 3: case 4: {
                    int time = near(0, 180);
                    int trick = near(-1, Math.max(0, model.tricks.size() - 1));
                    return same("most", real.most(time, trick), model.most(time, trick), time, trick);
                }
                case 5: {
                    int trick = near(0, Math.max(0, model.tricks.size() - 1));
                    int n = random.nextBoolean() ? near(1, 6) : near(1, 99);
                    return same("row", real.row(trick, n), model.row(trick, n), trick, n);
                }
                default:
                    return random.nextInt(4) == 0 ? same("clear", real.clear(), model.clear()) : trickCall(in(0, 5));
            }
        }

        private String sheetCall(int kind) {
            int sheet = near(0, 3);
            int[] row = sheet >= 0 && sheet < 4 ? model.sheets[sheet] : null;
            int lane = row == null || random.nextInt(8) == 0 ? near(0, 2) : model.lanes[sheet];
            int i = near(0, row == null ? 3 : row.length);
            switch (kind) {
                case 0: {
                    int n = near(0, 24);
                    int any = near(0, 2);
                    return same("sheet", real.sheet(sheet, any, n), model.sheet(sheet, any, n), sheet, any, n);
                }
                case 1:
                    return random.nextInt(3) == 0 ? same("drop", real.drop(sheet), model.drop(sheet), sheet)
                        : sheetCall(0);
                case 2: {
                    int v = random.nextInt(3) == 0 ? random.nextInt() : in(-300, 300);
                    return same("item", real.item(sheet, lane, i, v), model.item(sheet, lane, i, v), sheet, lane, i, v);
                }
                case 3: {
                    int to = near(0, 3);
                    int j = near(0, random.nextBoolean() ? 3 : 24);
                    int n = near(0, random.nextBoolean() ? 4 : 24);
                    return same("copy", real.copy(sheet, i, to, j, n), model.copy(sheet, i, to, j, n), sheet, i, to, j, n);
                }
                case 4: case 5: {
                    int from = random.nextBoolean() ? 0 : i;
                    int n = near(1, row == null ? 12 : Math.max(1, row.length / 2));
                    return same("film", real.film(sheet, lane, from, n), model.film(sheet, lane, from, n),
                        sheet, lane, from, n);
                }
                default: {
                    int from = random.nextInt(3) > 0 ? 0 : i;
                    int n = random.nextInt(3) > 0 ? near(1, 3) : near(1, row == null ? 12 : Math.max(1, row.length / 2));
                    return random.nextBoolean() ? filmedCall(sheet, lane, from, n) : shownCall(sheet);
                }
            }
        }

        private String filmedCall(int sheet, int lane, int from, int n) {
            int what = near(0, 2);
            return same("filmed", real.filmed(sheet, lane, from, n, what),
                model.filmed(sheet, lane, from, n, what), sheet, lane, from, n, what);
        }

        /** A film that was just made is asked for, so that pulls show it: random items hardly ever do. */
        private String shownCall(int sheet) {
            int lane = in(0, 2);
            int size = in(2, 24);
            String made = same("sheet", real.sheet(sheet, lane, size), model.sheet(sheet, lane, size), sheet, lane, size);
            int n = in(1, size / 2);
            int from = in(0, size - 2 * n);
            String film = same("film", real.film(sheet, lane, from, n), model.film(sheet, lane, from, n),
                sheet, lane, from, n);
            if (made.endsWith("WRONG") || film.endsWith("WRONG")) {
                return made + '\n' + film + " WRONG";
            }
            return made + '\n' + film + '\n' + filmedCall(sheet, lane, from, in(1, n));
        }

        private static String same(String name, int got, int want, long... arguments) {
            String list = Arrays.toString(arguments).replace('[', '(').replace(']', ')');
            return name + list + " = " + got + (got == want ? "" : ", due is " + want + " WRONG");
        }
    }

    // ---- the model

    private record Cup(int x, int y, int wide, int worth, boolean spike) { }

    private record Part(int steps, int u, int v) { }

    private record Trick(int odds, int seconds, int worth, int may) { }

    private record State(int x, int y, int px, int py, int turn, int spin, int hx, int hy, boolean taut, int u, int v) { }

    private record Outcome(List<State> states, int cup, int step, int rims, int tauts) {
        State behind(int step) {
            return states.get(Math.min(step, states.size() - 1));
        }
    }

    private static final class Model {
        private int cord = 30;
        private int weight = 1;
        private int soft = 6;
        private List<Cup> cups = new ArrayList<>();
        private List<Part> parts = new ArrayList<>();
        private List<Trick> tricks = new ArrayList<>();
        private Model kept = null;
        private String tape = "";
        private final int[][] sheets = new int[4][];
        private final int[] lanes = new int[4];

        private static boolean out(int v, int least, int most) {
            return v < least || v > most;
        }

        int set(int what, int v) {
            int was = what == 0 ? cord : what == 1 ? weight : soft;
            if (what == 0 && !out(v, 10, 60)) {
                cord = v;
            } else if (what == 1 && !out(v, 1, 4)) {
                weight = v;
            } else if (what == 2 && !out(v, 0, 20)) {
                soft = v;
            } else {
                return -1;
            }
            return was;
        }

        int cup(int x, int y, int wide, int worth, boolean spike) {
            if (out(x, -9, 9) || out(y, -9, 9) || out(wide, 0, 9) || out(worth, 0, 99)) {
                return -1;
            }
            if (cups.size() == 4) {
                return -3;
            }
            cups.add(new Cup(x, y, wide, worth, spike));
            return cups.size() - 1;
        }

        int told(int cup, int what) {
            if (out(cup, 0, cups.size() - 1) || out(what, 0, 4)) {
                return -100001;
            }
            Cup c = cups.get(cup);
            return new int[] {c.x, c.y, c.wide, c.worth, c.spike ? 1 : 0}[what];
        }

        int part(int steps, int u, int v) {
            if (out(steps, 1, 20) || out(u, -9, 9) || out(v, -9, 9)) {
                return -1;
            }
            if (parts.size() == 6) {
                return -3;
            }
            parts.add(new Part(steps, u, v));
            return parts.size() - 1;
        }

        int pull(int part, int what) {
            if (out(part, 0, parts.size() - 1) || out(what, 0, 2)) {
                return -100001;
            }
            Part p = parts.get(part);
            return new int[] {p.steps, p.u, p.v}[what];
        }

        int still() {
            int had = parts.size();
            parts.clear();
            return had;
        }

        int type(long w, int n) {
            if (out(n, 1, 8)) {
                return -1;
            }
            StringBuilder more = new StringBuilder();
            for (int i = 0; i < n; i++) {
                int b = (int) (w & 255);
                if (b < 32 || b > 126) {
                    return -1;
                }
                more.append((char) b);
                w >>= 8;
            }
            if (tape.length() + n > 60) {
                return -3;
            }
            tape += more.reverse();
            return tape.length();
        }

        /** Reads by a machine of states: each letter of the shape is one thing that may come. */
        private static final class Machine {
            private final String text;
            private int place = 0;

            Machine(String text) {
                this.text = text;
            }

            /** The next byte that is no blank, or 0 at the end. */
            char peek() {
                while (place < text.length() && text.charAt(place) == ' ') {
                    place++;
                }
                return place == text.length() ? 0 : text.charAt(place);
            }

            int fault() {
                peek();
                return -20 - place;
            }
        }

        /** Reads by a shape: + a sign, d a digit, n a number; answers the values, or one fault below 0. */
        private static int[] shaped(Machine m, String shape, int least, int most) {
            int[] values = new int[shape.length()];
            for (int i = 0; i < shape.length(); i++) {
                char b = m.peek();
                boolean fine = shape.charAt(i) == '+' ? b == '+' || b == '-' : b >= '0' && b <= '9';
                if (!fine) {
                    return new int[] {m.fault()};
                }
                if (shape.charAt(i) == 'n') {
                    int first = m.place;
                    String digits = "";
                    while (m.place < m.text.length() && Character.isDigit(m.text.charAt(m.place))) {
                        digits += m.text.charAt(m.place++);
                    }
                    java.math.BigInteger value = new java.math.BigInteger(digits);
                    if (value.compareTo(java.math.BigInteger.valueOf(least)) < 0
                        || value.compareTo(java.math.BigInteger.valueOf(most)) > 0) {
                        return new int[] {-20 - first};
                    }
                    values[i] = value.intValue();
                } else {
                    values[i] = b == '-' ? -1 : b == '+' ? 1 : b - '0';
                    m.place++;
                }
            }
            return values;
        }

        int toy() {
            Machine m = new Machine(tape);
            tape = "";
            List<Cup> read = new ArrayList<>();
            while (true) {
                int[] c = shaped(m, "+d+dd", 0, 0);
                if (c.length == 1) {
                    return c[0];
                }
                boolean spike = m.peek() == 's';
                m.place += spike ? 1 : 0;
                int worth = 1;
                if (m.peek() == ':') {
                    m.place++;
                    int[] n = shaped(m, "n", 0, 99);
                    if (n[0] < 0) {
                        return n[0];
                    }
                    worth = n[0];
                }
                read.add(new Cup(c[0] * c[1], c[2] * c[3], c[4], worth, spike));
                if (m.peek() == 0) {
                    cups = read;
                    return read.size();
                }
                if (m.peek() != ';' || read.size() == 4) {
                    return m.fault();
                }
                m.place++;
            }
        }

        int pulls() {
            Machine m = new Machine(tape);
            tape = "";
            List<Part> read = new ArrayList<>();
            while (true) {
                int[] p = shaped(m, "n+d+d", 1, 20);
                if (p.length == 1) {
                    return p[0];
                }
                read.add(new Part(p[0], p[1] * p[2], p[3] * p[4]));
                if (m.peek() == 0) {
                    parts = read;
                    return read.size();
                }
                if (m.peek() != ';' || read.size() == 6) {
                    return m.fault();
                }
                m.place++;
            }
        }

        /** The moves of a pull, a pair a step, with other u, v in part 0. */
        private int[][] moves(int u0, int v0) {
            int[][] moves = new int[100][2];
            int step = 0;
            for (int i = 0; i < parts.size(); i++) {
                for (int k = 0; k < parts.get(i).steps && step < 100; k++) {
                    moves[step++] = i == 0 ? new int[] {u0, v0} : new int[] {parts.get(i).u, parts.get(i).v};
                }
            }
            return moves;
        }

        private Outcome told() {
            return parts.isEmpty() ? tried(0, 0, cord, cups, -1, 0) : tried(parts.get(0).u, parts.get(0).v, cord, cups, -1, 0);
        }

        private Outcome tried(int u0, int v0, int length, List<Cup> meets, int lateCup, int lateStep) {
            int[][] moves = moves(u0, v0);
            List<State> states = new ArrayList<>();
            State s = new State(0, -length, 0, 0, 0, 0, 0, 0, true, 0, 0);
            int rims = 0;
            int tauts = 0;
            for (int step = 0; step < 100; step++) {
                int u = moves[step][0];
                int v = moves[step][1];
                if (lateCup >= 0 && step >= lateStep && !s.taut) {
                    int cupX = s.hx + meets.get(lateCup).x;
                    u += s.x > cupX ? 1 : s.x < cupX ? -1 : 0;
                }
                State n = moved(s, u, v, length);
                tauts += n.taut ? 1 : 0;
                int met = met(s, n, meets);
                if (met >= 0) {
                    Cup c = meets.get(met);
                    boolean in = Math.abs(n.x - n.hx - c.x) <= c.wide && Math.abs(n.px - u) <= soft;
                    if (in && (!c.spike || List.of(15, 0, 1).contains(n.turn))) {
                        states.add(n);
                        return new Outcome(states, met, step, rims, tauts);
                    }
                    rims++;
                    n = new State(n.x, n.y, n.px, Math.abs(n.py) / 2, n.turn, n.spin, n.hx, n.hy, n.taut, u, v);
                }
                states.add(n);
                s = n;
            }
            return new Outcome(states, -4, -4, rims, tauts);
        }

        private State moved(State s, int u, int v, int length) {
            int hx = s.hx + u;
            int hy = s.hy + v;
            int py = s.py - weight;
            int p = s.x + s.px - hx;
            int q = s.y + py - hy;
            if (p * p + q * q <= length * length) {
                int turn = ((s.turn + s.spin) % 16 + 16) % 16;
                return new State(hx + p, hy + q, s.px, py, turn, s.spin, hx, hy, false, u, v);
            }
            int d = (int) Math.floor(Math.sqrt(p * p + q * q));
            int heldP = p * length / d;
            int heldQ = q * length / d;
            int px = s.px + heldP - p;
            return new State(hx + heldP, hy + heldQ, px, py + heldQ - q, 0, (px - u) / 3, hx, hy, true, u, v);
        }

        private static int met(State ahead, State now, List<Cup> meets) {
            for (int i = 0; i < meets.size(); i++) {
                Cup c = meets.get(i);
                boolean falls = ahead.y - ahead.hy >= c.y && now.y - now.hy < c.y;
                if (falls && Math.abs(now.x - now.hx - c.x) <= c.wide + 2) {
                    return i;
                }
            }
            return -1;
        }

        int at(int step, int what) {
            if (out(step, 0, 99) || out(what, 0, 8)) {
                return -100001;
            }
            State s = told().behind(step);
            return new int[] {s.x, s.y, s.px, s.py, s.turn, s.spin, s.hx, s.hy, s.taut ? 1 : 0}[what];
        }

        int end(int what) {
            if (out(what, 0, 3)) {
                return -1;
            }
            Outcome o = told();
            return new int[] {o.cup, o.step, o.rims, o.tauts}[what];
        }

        int count(int what) {
            if (out(what, 0, 3)) {
                return -1;
            }
            int steps = parts.stream().mapToInt(Part::steps).sum();
            return new int[] {cups.size(), parts.size(), steps, tricks.size()}[what];
        }

        private int ended(int u, int v) {
            return tried(u, v, cord, cups, -1, 0).cup;
        }

        int ends(int u, int v) {
            if (out(u, -4, 4) || out(v, 0, 9)) {
                return -1;
            }
            return parts.isEmpty() ? -2 : ended(u, v);
        }

        private boolean[][] into(int cup) {
            boolean[][] into = new boolean[9][10];
            for (int u = -4; u <= 4; u++) {
                for (int v = 0; v <= 9; v++) {
                    into[u + 4][v] = ended(u, v) == cup;
                }
            }
            return into;
        }

        private static int flood(boolean[][] into, int i, int v) {
            if (i < 0 || i > 8 || v < 0 || v > 9 || !into[i][v]) {
                return 0;
            }
            into[i][v] = false;
            return 1 + flood(into, i - 1, v) + flood(into, i + 1, v) + flood(into, i, v - 1) + flood(into, i, v + 1);
        }

        int cells(int cup, int what) {
            if (out(cup, 0, cups.size() - 1) || out(what, 0, 2)) {
                return -1;
            }
            if (parts.isEmpty()) {
                return -2;
            }
            boolean[][] into = into(cup);
            int[] found = new int[3];
            for (int i = 0; i < 9; i++) {
                for (int v = 0; v < 10; v++) {
                    int pulls = flood(into, i, v);
                    found[0] += pulls;
                    found[1] += pulls > 0 ? 1 : 0;
                    found[2] = Math.max(found[2], pulls);
                }
            }
            return found[what];
        }

        int middle(int cup, int what) {
            if (out(cup, 0, cups.size() - 1) || out(what, 0, 2)) {
                return -100001;
            }
            if (parts.isEmpty()) {
                return -100002;
            }
            boolean[][] into = into(cup);
            int[] best = null;
            for (int r = 9; r >= 0 && best == null; r--) {
                for (int i = r; i + r < 9 && best == null; i++) {
                    for (int v = r; v + r < 10 && best == null; v++) {
                        boolean whole = true;
                        for (int a = i - r; a <= i + r; a++) {
                            for (int b = v - r; b <= v + r; b++) {
                                whole &= into[a][b];
                            }
                        }
                        best = whole ? new int[] {i - 4, v, r} : null;
                    }
                }
            }
            return best == null ? -100004 : best[what];
        }

        int mended(int cup, int step) {
            if (out(cup, 0, cups.size() - 1) || out(step, 0, 99)) {
                return -1;
            }
            if (parts.isEmpty()) {
                return -2;
            }
            int mended = 0;
            for (int u = -4; u <= 4; u++) {
                for (int v = 0; v <= 9; v++) {
                    boolean so = tried(u, v, cord, cups, cup, step).cup == cup;
                    mended += so && ended(u, v) != cup ? 1 : 0;
                }
            }
            return mended;
        }

        private int wandered(int length, int cup) {
            int[] weights = {1, 2, 1};
            int odds = 0;
            for (int a = 0; a < 3; a++) {
                for (int b = 0; b < 3; b++) {
                    Outcome o = tried(parts.get(0).u + a - 1, parts.get(0).v + b - 1, length, cups, -1, 0);
                    odds += o.cup == cup ? weights[a] * weights[b] : 0;
                }
            }
            return odds;
        }

        int odds(int cup) {
            if (out(cup, 0, cups.size() - 1)) {
                return -1;
            }
            return parts.isEmpty() ? -2 : wandered(cord, cup);
        }

        int which() {
            if (parts.isEmpty()) {
                return -2;
            }
            int best = -4;
            for (int cup = cups.size() - 1; cup >= 0; cup--) {
                if (best < 0 || gain(cup) >= gain(best)) {
                    best = cup;
                }
            }
            return best;
        }

        private int gain(int cup) {
            return wandered(cord, cup) * cups.get(cup).worth;
        }

        int trick(int odds, int seconds, int worth, int may) {
            if (out(odds, 0, 16) || out(seconds, 1, 60) || out(worth, 0, 99) || out(may, 1, 9)) {
                return -1;
            }
            if (tricks.size() == 8) {
                return -3;
            }
            tricks.add(new Trick(odds, seconds, worth, may));
            return tricks.size() - 1;
        }

        /** The best choice from a trick on: the sum, then how often each; of like sums the one that tries the first most. */
        private int[] chosen(int trick, int time, Map<Integer, int[]> known) {
            if (trick == tricks.size()) {
                return new int[1 + tricks.size()];
            }
            int[] best = known.get(trick * 1000 + time);
            if (best != null) {
                return best;
            }
            Trick t = tricks.get(trick);
            for (int often = t.may; often >= 0; often--) {
                if (often * t.seconds <= time) {
                    int[] choice = chosen(trick + 1, time - often * t.seconds, known).clone();
                    choice[0] += often * t.odds * t.worth;
                    choice[1 + trick] = often;
                    best = best == null || choice[0] > best[0] ? choice : best;
                }
            }
            known.put(trick * 1000 + time, best);
            return best;
        }

        int most(int time, int trick) {
            if (out(time, 0, 180) || out(trick, -1, tricks.size() - 1)) {
                return -1;
            }
            return chosen(0, time, new HashMap<>())[trick + 1];
        }

        int row(int trick, int n) {
            if (out(trick, 0, tricks.size() - 1) || out(n, 1, 99)) {
                return -1;
            }
            int odds = tricks.get(trick).odds;
            return n == 1 ? 1000 * odds / 16 : row(trick, n - 1) * odds / 16;
        }

        int clear() {
            int had = tricks.size();
            tricks.clear();
            return had;
        }

        int cord(int cup, int what) {
            if (out(cup, 0, cups.size() - 1) || out(what, 0, 1)) {
                return -1;
            }
            if (parts.isEmpty()) {
                return -2;
            }
            int[] best = {60, wandered(60, cup)};
            for (int length = 59; length >= 10; length--) {
                int odds = wandered(length, cup);
                best = odds >= best[1] ? new int[] {length, odds} : best;
            }
            return best[what];
        }

        int down(int step, int pace) {
            if (out(step, 0, 99) || out(pace, 0, 99)) {
                return -1;
            }
            Part first = parts.isEmpty() ? new Part(1, 0, 0) : parts.get(0);
            List<State> states = tried(first.u, first.v, cord, List.of(), -1, 0).states;
            for (int i = step; i < 100; i++) {
                State s = states.get(i);
                if (Math.abs(s.px - s.u) <= pace && Math.abs(s.py - s.v) <= pace) {
                    return i;
                }
            }
            return -4;
        }

        /** What keeps n items of a sheet from i on from being taken, or 0. */
        private int refusal(int sheet, int lane, int i, int n) {
            if (sheets[sheet] == null) {
                return -11;
            }
            if (lanes[sheet] != lane) {
                return -12;
            }
            long last = (long) i + n;
            return i < 0 || n < 0 || i > sheets[sheet].length || last > sheets[sheet].length ? -13 : 0;
        }

        int filmed(int sheet, int lane, int i, int n, int what) {
            if (out(sheet, 0, 3) || out(lane, 0, 2) || out(n, 1, 12) || out(what, 0, 2)) {
                return -100001;
            }
            int refusal = refusal(sheet, lane, i, 2 * n);
            if (refusal != 0) {
                return refusal - 100000;
            }
            if (parts.isEmpty()) {
                return -100002;
            }
            int[] due = Arrays.copyOfRange(sheets[sheet], i, i + 2 * n);
            int[] found = {0, -100004, -100004};
            for (int u = 4; u >= -4; u--) {
                for (int v = 9; v >= 0; v--) {
                    if (Arrays.equals(due, places(tried(u, v, cord, cups, -1, 0), n))) {
                        found = new int[] {found[0] + 1, u, v};
                    }
                }
            }
            return found[what];
        }

        private static int[] places(Outcome o, int n) {
            int[] places = new int[2 * n];
            for (int k = 0; k < n; k++) {
                places[2 * k] = o.behind(k).x;
                places[2 * k + 1] = o.behind(k).y;
            }
            return places;
        }

        int image() {
            kept = new Model();
            kept.takeAll(this);
            return 1;
        }

        int restore() {
            if (kept == null) {
                return -4;
            }
            takeAll(kept);
            return 1;
        }

        private void takeAll(Model other) {
            cord = other.cord;
            weight = other.weight;
            soft = other.soft;
            cups = new ArrayList<>(other.cups);
            parts = new ArrayList<>(other.parts);
            tricks = new ArrayList<>(other.tricks);
        }

        private void write(int sheet, int i, int v) {
            sheets[sheet][i] = lanes[sheet] == 0 ? (byte) v : lanes[sheet] == 1 ? (short) v : v;
        }

        int film(int sheet, int lane, int i, int n) {
            if (out(sheet, 0, 3) || out(lane, 0, 2) || out(n, 1, 12)) {
                return -1;
            }
            int refusal = refusal(sheet, lane, i, 2 * n);
            if (refusal != 0) {
                return refusal;
            }
            int[] places = places(told(), n);
            for (int k = 0; k < places.length; k++) {
                write(sheet, i + k, places[k]);
            }
            return places.length;
        }

        int sheet(int sheet, int lane, int n) {
            if (out(sheet, 0, 3) || out(lane, 0, 2) || n > 24) {
                return -1;
            }
            if (n < 0) {
                return -14;
            }
            sheets[sheet] = new int[n];
            lanes[sheet] = lane;
            return n;
        }

        int drop(int sheet) {
            if (out(sheet, 0, 3)) {
                return -1;
            }
            if (sheets[sheet] == null) {
                return -11;
            }
            int had = sheets[sheet].length;
            sheets[sheet] = null;
            return had;
        }

        int item(int sheet, int lane, int i, int v) {
            if (out(sheet, 0, 3) || out(lane, 0, 2)) {
                return -1;
            }
            int refusal = refusal(sheet, lane, i, 1);
            if (refusal != 0) {
                return refusal;
            }
            write(sheet, i, v);
            return 1;
        }

        int copy(int from, int i, int to, int j, int n) {
            if (out(from, 0, 3) || out(to, 0, 3)) {
                return -1;
            }
            if (sheets[from] == null || sheets[to] == null) {
                return -11;
            }
            if (lanes[from] != lanes[to]) {
                return -12;
            }
            if (refusal(from, lanes[from], i, n) != 0 || refusal(to, lanes[to], j, n) != 0) {
                return -13;
            }
            int[] taken = Arrays.copyOfRange(sheets[from], i, i + n);
            for (int k = 0; k < n; k++) {
                sheets[to][j + k] = taken[k];
            }
            return n;
        }
    }
}
