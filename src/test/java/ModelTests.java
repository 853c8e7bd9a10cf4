import java.util.ArrayList;
import java.util.HashMap;
import java.util.List;
import java.util.Map;
import java.util.Random;
import java.util.TreeSet;

/**
 * Long runs of drawn calls, each answer beside that of a second program, which searches where the
 * class reckons. It is by the same hand: it finds slips, but not a misreading of the document that
 * both share. The draws are the same every time.
 */
public final class ModelTests {
    private static final int RUNS = 400;
    private static final int CALLS = 512;
    private static final String SIGNS = "dmswi0123456789!()+-*/%<=>|&x ";

    public static void main(String[] args) {
        int wrong = 0;
        long calls = 0;
        int[] errors = new int[6];
        for (int run = 0; run < RUNS && wrong < 5; run++) {
            Random r = new Random(run);
            ReadingLight x = new ReadingLight();
            Model y = new Model();
            List<String> log = new ArrayList<>();
            for (int i = 0; i < CALLS; i++) {
                int[] a = draw(r, y, i);
                long word = a[0] == 9 ? wordOf(r, y) : 0;
                int want = y.answer(a, word);
                int got = onClass(x, a, word);
                log.add(java.util.Arrays.toString(a) + (a[0] == 9 ? " word " + word : "") + " -> " + want);
                calls++;
                if (got != want) {
                    wrong++;
                    System.out.println("run " + run + ", call " + i + ": answered " + got + "; the last calls:");
                    for (int k = Math.max(0, log.size() - 30); k < log.size(); k++) {
                        System.out.println("  " + log.get(k));
                    }
                    break;
                }
            }
            for (int k = 1; k <= 5; k++) {
                errors[k] += y.told[k];
            }
        }
        System.out.println(calls + " calls, " + wrong + " runs that differ; errors met: " + java.util.Arrays.toString(errors));
        if (wrong != 0) {
            System.exit(1);
        }
    }

    // ---- drawing calls

    private static int odd(Random r) {
        int[] far = {-1, -2, 16, 61, 100, 70, 256, 65536, 100000, Integer.MIN_VALUE, Integer.MAX_VALUE, 41, 21, 9};
        return far[r.nextInt(far.length)];
    }

    /** Mostly within 0 .. most, now and then far off. */
    private static int within(Random r, int most) {
        return r.nextInt(25) == 0 ? odd(r) : r.nextInt(most + 1);
    }

    private static int someGoer(Random r, Model y) {
        int goers = y.s.goers.size();
        return goers == 0 || r.nextInt(25) == 0 ? within(r, 8) : r.nextInt(goers);
    }

    private static int ahead(Random r, int most) {
        int pick = r.nextInt(12);
        return pick == 0 ? 0 : pick == 1 ? most : within(r, most);
    }

    private static long wordOf(Random r, Model y) {
        if (y.pending.isEmpty()) {
            y.pending = r.nextInt(8) == 0 ? soup(r) : text(r, r.nextInt(2) == 0 ? "dms" : "wsi", 0, 0);
            if (r.nextInt(6) == 0 && !y.pending.isEmpty()) {
                char[] c = y.pending.toCharArray();
                c[r.nextInt(c.length)] = SIGNS.charAt(r.nextInt(SIGNS.length()));
                y.pending = new String(c);
            }
            if (y.pending.length() > 60) {
                y.pending = y.pending.substring(0, 60);
            }
        }
        int n = Math.min(8, y.pending.length());
        long word = r.nextLong();
        for (int i = n - 1; i >= 0; i--) {
            word = word & ~(255L << 8 * i) | (long) y.pending.charAt(i) << 8 * i;
        }
        return word;
    }

    private static String soup(Random r) {
        StringBuilder b = new StringBuilder();
        for (int n = r.nextInt(9); n > 0; n--) {
            b.append(SIGNS.charAt(r.nextInt(SIGNS.length())));
        }
        return b.toString();
    }

    /** A text by the grammar, now and then with more open than may be. */
    private static String text(Random r, String names, int level, int open) {
        String[] signs = {"|", "&", "<=>", "+-", "*/%"};
        if (level == 5) {
            int pick = r.nextInt(10);
            if (pick < 4 || open > 5) {
                return String.valueOf(names.charAt(r.nextInt(3)));
            }
            if (pick < 7) {
                return String.valueOf(r.nextInt(r.nextInt(4) == 0 ? 11000 : 30));
            }
            return pick == 7 ? "!" + text(r, names, 5, open + 1) : "(" + text(r, names, 0, open + 1) + ")";
        }
        String s = text(r, names, level + 1, open);
        while (r.nextInt(4) == 0) {
            s += signs[level].charAt(r.nextInt(signs[level].length())) + text(r, names, level + 1, open);
            if (level == 2) {
                break;
            }
        }
        return s;
    }

    private static int[] draw(Random r, Model y, int i) {
        int f = 1 + r.nextInt(40);
        if (i < 12 && r.nextInt(2) == 0) {
            f = 3;
        }
        if (f == 10 || !y.pending.isEmpty() && r.nextInt(3) > 0) {
            f = 9;
        }
        if (f == 9 && y.pending.isEmpty() && !y.s.tape.isEmpty() && r.nextInt(8) > 0) {
            f = 10;
        }
        if (f == 10 && y.s.tape.isEmpty() && r.nextInt(4) > 0) {
            f = 9;
        }
        if (f == 36 && r.nextInt(4) > 0) {
            f = 12;
        }
        int[] mostOf = {15, 8, 15, 65535, 15, 3};
        int what;
        switch (f) {
            case 1: what = within(r, 5); return new int[] {1, what, within(r, mostOf[Math.floorMod(what, 6)])};
            case 2: return new int[] {2, within(r, 15), within(r, 1)};
            case 3: return new int[] {3, within(r, 69), within(r, 15), within(r, r.nextInt(2) == 0 ? 99 : 25)};
            case 4: return new int[] {4, someGoer(r, y), within(r, 6)};
            case 5: return new int[] {5, someGoer(r, y), within(r, 1), within(r, r.nextInt(2) == 0 ? 15 : 99)};
            case 6: return new int[] {6, r.nextInt(3) == 0 ? 99900 + r.nextInt(120) : within(r, 99999)};
            case 7: return new int[] {7, someGoer(r, y), within(r, 69)};
            case 8: return new int[] {8, someGoer(r, y), within(r, 6)};
            case 9: return new int[] {9, r.nextInt(20) == 0 ? odd(r) : 0};
            case 10: return new int[] {10, within(r, 1)};
            case 11: return new int[] {11, within(r, 1), r.nextInt(3) == 0 ? r.nextInt() : r.nextInt(99), r.nextInt(9), r.nextInt(16)};
            case 12: return new int[] {12, r.nextInt(3) > 0 ? 1 + r.nextInt(6) : ahead(r, 60)};
            case 13: return new int[] {13, r.nextInt(3) > 0 ? 1 + r.nextInt(6) : ahead(r, 40)};
            case 14: return new int[] {14, ahead(r, 60), someGoer(r, y), within(r, 2)};
            case 15: return new int[] {15};
            case 16: return new int[] {16, within(r, 1)};
            case 17: return new int[] {17, r.nextInt(2) == 0 ? within(r, 99) : within(r, 1000)};
            case 18: return new int[] {18, ahead(r, 60), within(r, 1)};
            case 19: return new int[] {19, within(r, (1 << y.s.goers.size()) - 1) & (r.nextInt(4) == 0 ? -1 : r.nextInt(256)), ahead(r, 60)};
            case 20: return new int[] {20, someGoer(r, y), ahead(r, 20)};
            case 21: return new int[] {21, within(r, 3), someGoer(r, y), within(r, 1)};
            case 22: return new int[] {22, ahead(r, 60)};
            case 23: return new int[] {23, someGoer(r, y)};
            case 24: return new int[] {24, someGoer(r, y), ahead(r, 60), within(r, 1)};
            case 25: return new int[] {25, within(r, 15), ahead(r, 60)};
            case 26: return new int[] {26, someGoer(r, y), ahead(r, 60), within(r, 1)};
            case 27: return new int[] {27, r.nextInt()};
            case 28: return new int[] {28, someGoer(r, y), within(r, 3), r.nextInt(2) == 0 ? r.nextInt() : r.nextInt(30)};
            case 29: return new int[] {29, within(r, 9)};
            case 30: return new int[] {30, within(r, 3), r.nextInt(12) == 0 ? within(r, 33) : r.nextInt(5) == 0 ? 0 : 8 << r.nextInt(3), r.nextInt(6) == 0 ? within(r, 41) : r.nextInt(9)};
            case 31: return new int[] {31, within(r, 3), within(r, 7), r.nextInt(3) == 0 ? r.nextInt() : r.nextInt(3) == 0 ? within(r, 130) : r.nextInt(2)};
            case 32: return new int[] {32, within(r, 3), within(r, 4), within(r, 3), within(r, 4), within(r, 4)};
            case 33: return new int[] {33, within(r, 3)};
            case 34: return new int[] {34, within(r, 3)};
            case 35: return new int[] {35};
            case 36: return new int[] {36};
            case 37: return new int[] {37, guess(r, y)};
            case 38: return new int[] {38};
            case 39: return new int[] {39, within(r, 12)};
            default: return new int[] {40, within(r, 6)};
        }
    }

    /** Now and then what is so, that check() may find more than the first number untrue. */
    private static int guess(Random r, Model y) {
        Model.State t = y.s.copy();
        for (int k = 0; k <= y.s.waiting.size(); k++) {
            t.step();
        }
        return r.nextInt(6) == 0 ? r.nextInt() : t.words;
    }

    private static int onClass(ReadingLight x, int[] a, long word) {
        switch (a[0]) {
            case 1: return x.set(a[1], a[2]);
            case 2: return x.ofBearing(a[1], a[2]);
            case 3: return x.goer(a[1], a[2], a[3]);
            case 4: return x.ofGoer(a[1], a[2]);
            case 5: return x.change(a[1], a[2], a[3]);
            case 6: return x.words(a[1]);
            case 7: return x.become(a[1], a[2]);
            case 8: return x.as(a[1], a[2]);
            case 9: return x.feed(word, a[1]);
            case 10: return x.text(a[1]);
            case 11: return x.law(a[1], a[2], a[3], a[4]);
            case 12: return x.steps(a[1]);
            case 13: return x.loose(a[1]);
            case 14: return x.then(a[1], a[2], a[3]);
            case 15: return x.lit();
            case 16: return x.first(a[1]);
            case 17: return x.reads(a[1]);
            case 18: return x.pace(a[1], a[2]);
            case 19: return x.lead(a[1], a[2]);
            case 20: return x.shade(a[1], a[2]);
            case 21: return x.stood(a[1], a[2], a[3]);
            case 22: return x.dark(a[1]);
            case 23: return x.longest(a[1]);
            case 24: return x.from(a[1], a[2], a[3]);
            case 25: return x.cost(a[1], a[2]);
            case 26: return x.odds(a[1], a[2], a[3]);
            case 27: return x.seed(a[1]);
            case 28: return x.voice(a[1], a[2], a[3]);
            case 29: return x.trace(a[1]);
            case 30: return x.sheet(a[1], a[2], a[3]);
            case 31: return x.put(a[1], a[2], a[3]);
            case 32: return x.move(a[1], a[2], a[3], a[4], a[5]);
            case 33: return x.distances(a[1]);
            case 34: return x.judge(a[1]);
            case 35: return x.image();
            case 36: return x.restore();
            case 37: return x.tell(a[1]);
            case 38: return x.check();
            case 39: return x.count(a[1]);
            default: return x.told(a[1]);
        }
    }

    // ---- texts, by cutting them wherever the grammar lets them be cut

    private static final class Texts {
        private final String names;
        private final int[] values;
        private final Map<String, Integer> known = new HashMap<>();
        private static final String[] SIGNS_OF = {"|", "&", "<=>", "+-", "*/%"};
        private static final Integer NO = null;

        Texts(String names, int... values) {
            this.names = names;
            this.values = values;
        }

        static boolean isText(String s, String names) {
            return new Texts(names, 0, 0, 0).worth(s, 0, 0) != NO;
        }

        /** The worth of s as a phrase of a level, or null. */
        Integer worth(String s, int level, int open) {
            String key = level + " " + open + " " + s;
            if (!known.containsKey(key)) {
                known.put(key, level == 5 ? unit(s, open) : phrase(s, level, open));
            }
            return known.get(key);
        }

        private Integer phrase(String s, int level, int open) {
            Integer plain = worth(s, level + 1, open);
            if (plain != NO) {
                return plain;
            }
            for (int i = s.length() - 2; i > 0; i--) {
                if (SIGNS_OF[level].indexOf(s.charAt(i)) < 0) {
                    continue;
                }
                Integer right = worth(s.substring(i + 1), level + 1, open);
                if (right == NO) {
                    continue;
                }
                Integer left = worth(s.substring(0, i), level == 2 ? 3 : level, open);
                if (left != NO) {
                    return join(left, s.charAt(i), right);
                }
            }
            return NO;
        }

        private Integer unit(String s, int open) {
            if (s.matches("[0-9]{1,4}")) {
                return Integer.parseInt(s);
            }
            if (s.length() == 1 && names.contains(s)) {
                return values[names.indexOf(s)];
            }
            if (open < 5 && s.startsWith("!")) {
                Integer v = worth(s.substring(1), 5, open + 1);
                return v == NO ? NO : Integer.valueOf(v == 0 ? 1 : 0);
            }
            if (open < 5 && s.startsWith("(") && s.endsWith(")") && s.length() > 2) {
                return worth(s.substring(1, s.length() - 1), 0, open + 1);
            }
            return NO;
        }

        private static int join(int l, char sign, int r) {
            boolean b = sign == '|' && (l != 0 || r != 0) || sign == '&' && l != 0 && r != 0
                || sign == '<' && l < r || sign == '=' && l == r || sign == '>' && l > r;
            switch (sign) {
                case '+': return l + r;
                case '-': return l - r;
                case '*': return l * r;
                case '/': return r == 0 ? 0 : (int) ((long) l / r);
                case '%': return r == 0 ? 0 : (int) ((long) l % r);
                default: return b ? 1 : 0;
            }
        }

        /** The place of the first byte with which no text goes on. */
        static int fault(String s, String names) {
            for (int p = 0; p < s.length(); p++) {
                if (!goesOn(s.substring(0, p + 1), names)) {
                    return p;
                }
            }
            return s.length();
        }

        private static boolean goesOn(String head, String names) {
            for (String operand : new String[] {"", "0"}) {
                for (int close = 0; close <= 5; close++) {
                    if (isText(head + operand + ")".repeat(close), names)) {
                        return true;
                    }
                }
            }
            return false;
        }
    }

    // ---- the second program

    private static final class Model {
        static final int LOW = -1000000000;
        static final int[] ABOVE = {-1, 0, 0, 0, 1, 2, 3};

        State s = new State();
        State image = null;
        int images = 0;
        int[] told = new int[6];
        int[][] sheets = new int[4][];
        int[] bits = new int[4];
        List<Integer> trace = new ArrayList<>();
        String pending = "";

        static final class G {
            int kind;
            int m;
            int bearing;
            int distance;

            boolean under(int k) {
                for (int at = kind; at >= 0; at = ABOVE[at]) {
                    if (at == k) {
                        return true;
                    }
                }
                return false;
            }
        }

        static final class State {
            int[] light = {0, 1, 1, 0, 0};
            int step = 0;
            int words = 0;
            int z = 1;
            List<G> goers = new ArrayList<>();
            String[] texts = {"d<20", "9"};
            String tape = "";
            List<Integer> waiting = new ArrayList<>();
            Map<String, Integer> memo = new HashMap<>();

            State copy() {
                State c = new State();
                c.light = light.clone();
                c.step = step;
                c.words = words;
                c.z = z;
                for (G g : goers) {
                    G h = new G();
                    h.kind = g.kind;
                    h.m = g.m;
                    h.bearing = g.bearing;
                    h.distance = g.distance;
                    c.goers.add(h);
                }
                c.texts = texts.clone();
                c.tape = tape;
                c.waiting = new ArrayList<>(waiting);
                c.memo = memo;
                return c;
            }

            int law(int use, int a, int b, int c) {
                String key = use + ":" + texts[use] + ":" + a + "," + b + "," + c;
                Integer v = memo.get(key);
                if (v == null) {
                    v = new Texts(use == 0 ? "dms" : "wsi", a, b, c).worth(texts[use], 0, 0);
                    v = Math.max(0, Math.min(use == 0 ? 1 : 99, v));
                    memo.put(key, v);
                }
                return v;
            }

            TreeSet<Integer> on() {
                TreeSet<Integer> set = new TreeSet<>();
                for (int k = 0; k < light[1]; k++) {
                    int b = (light[0] + k) % 16;
                    if ((light[3] & 1 << b) == 0) {
                        set.add(b);
                    }
                }
                return set;
            }

            boolean isLit(G g) {
                return on().contains(g.bearing) && law(0, g.distance, g.m, step % 16) != 0;
            }

            int comes(G g) {
                boolean lit = isLit(g);
                switch (g.kind) {
                    case 0: return 1;
                    case 1: return lit ? 1 : 0;
                    case 2: return lit ? 0 : 1;
                    case 3: return 0;
                    case 4: return lit ? 2 : 0;
                    case 5: return lit ? -1 : 1;
                    default: return g.m % 3;
                }
            }

            int round(G g) {
                return !isLit(g) ? 0 : g.kind == 3 ? 1 : g.kind == 6 ? 2 : 0;
            }

            void step() {
                if (on().contains(light[4])) {
                    words = Math.min(99999, words + law(1, words % 100, step % 16, Integer.bitCount(in())));
                }
                for (G g : goers) {
                    if (g.distance != 0) {
                        int by = comes(g);
                        int up = round(g);
                        g.distance = Math.min(99, Math.max(0, g.distance - by));
                        g.bearing = (g.bearing + up) % 16;
                    }
                }
                light[0] = (light[0] + light[2]) % 16;
                step++;
            }

            State behind(int n) {
                State c = copy();
                for (int k = 0; k < n; k++) {
                    c.step();
                }
                return c;
            }

            int in() {
                int set = 0;
                for (int g = 0; g < goers.size(); g++) {
                    if (goers.get(g).distance == 0) {
                        set += 1 << g;
                    }
                }
                return set;
            }

            /** Whether a goer is lit as steps 0 .. n - 1 begin. */
            boolean[] seen(int goer, int n) {
                boolean[] row = new boolean[n];
                State c = copy();
                for (int k = 0; k < n; k++) {
                    row[k] = c.isLit(c.goers.get(goer));
                    c.step();
                }
                return row;
            }

            boolean everSeen(int goer, int n) {
                for (boolean b : seen(goer, n)) {
                    if (b) {
                        return true;
                    }
                }
                return false;
            }
        }

        int err(int k) {
            told[k]++;
            return LOW - k;
        }

        static boolean out(int v, int least, int most) {
            return v < least || v > most;
        }

        boolean noGoer(int g) {
            return out(g, 0, s.goers.size() - 1);
        }

        int answer(int[] a, long word) {
            if (a[0] <= 13) {
                return act(a, word);
            }
            return a[0] <= 26 ? thought(a) : rest(a);
        }

        int act(int[] a, long word) {
            int was;
            switch (a[0]) {
                case 1:
                    if (out(a[1], 0, 4) || a[1] == 1 && out(a[2], 1, 8) || a[1] == 3 && out(a[2], 0, 65535)
                        || a[1] != 1 && a[1] != 3 && out(a[2], 0, 15)) {
                        return err(1);
                    }
                    was = s.light[a[1]];
                    s.light[a[1]] = a[2];
                    return was;
                case 2: {
                    if (out(a[1], 0, 15) || out(a[2], 0, 1)) {
                        return err(1);
                    }
                    if (a[2] == 0) {
                        return s.on().contains(a[1]) ? 1 : 0;
                    }
                    int set = 0;
                    for (int g = 0; g < s.goers.size(); g++) {
                        set += s.goers.get(g).bearing == a[1] ? 1 << g : 0;
                    }
                    return set;
                }
                case 3: {
                    if (out(a[1], 0, 69) || out(a[2], 0, 15) || out(a[3], 0, 99)) {
                        return err(1);
                    }
                    if (s.goers.size() == 8) {
                        return err(4);
                    }
                    G g = new G();
                    g.kind = a[1] / 10;
                    g.m = a[1] % 10;
                    g.bearing = a[2];
                    g.distance = a[3];
                    s.goers.add(g);
                    return s.goers.size() - 1;
                }
                case 4: {
                    if (noGoer(a[1]) || out(a[2], 0, 6)) {
                        return err(1);
                    }
                    G g = s.goers.get(a[1]);
                    return new int[] {g.kind, g.m, g.bearing, g.distance, s.isLit(g) ? 1 : 0, s.comes(g), s.round(g)}[a[2]];
                }
                case 5: {
                    if (noGoer(a[1]) || out(a[2], 0, 1) || out(a[3], 0, a[2] == 0 ? 15 : 99)) {
                        return err(1);
                    }
                    G g = s.goers.get(a[1]);
                    was = a[2] == 0 ? g.bearing : g.distance;
                    if (a[2] == 0) {
                        g.bearing = a[3];
                    } else {
                        g.distance = a[3];
                    }
                    return was;
                }
                case 6:
                    if (out(a[1], 0, 99999)) {
                        return err(1);
                    }
                    was = s.words;
                    s.words = a[1];
                    return was;
                case 7: {
                    if (noGoer(a[1]) || out(a[2], 0, 69)) {
                        return err(1);
                    }
                    G g = s.goers.get(a[1]);
                    was = g.kind;
                    g.kind = a[2] / 10;
                    g.m = a[2] % 10;
                    return was;
                }
                case 8:
                    if (noGoer(a[1]) || out(a[2], 0, 6)) {
                        return err(1);
                    }
                    return s.goers.get(a[1]).under(a[2]) ? s.goers.get(a[1]).m : err(5);
                case 9: return fed(a, word);
                case 10: {
                    if (out(a[1], 0, 1)) {
                        return err(1);
                    }
                    String t = s.tape;
                    String names = a[1] == 0 ? "dms" : "wsi";
                    s.tape = "";
                    if (!Texts.isText(t, names)) {
                        return -10 - Texts.fault(t, names);
                    }
                    s.texts[a[1]] = t;
                    return 1;
                }
                case 11: return out(a[1], 0, 1) ? err(1) : s.law(a[1], a[2], a[3], a[4]);
                default:
                    if (out(a[1], 1, a[0] == 12 ? 60 : 40)) {
                        return err(1);
                    }
                    if (s.step + a[1] > 9999) {
                        return err(3);
                    }
                    for (int k = 0; k < a[1]; k++) {
                        if (a[0] == 13) {
                            s.z = (int) (s.z * 1103515245L + 12345L);
                            s.light[2] = (s.z >>> 8) % 16;
                        }
                        s.step();
                    }
                    return s.in();
            }
        }

        /** feed: how many bytes goes by what is still to be brought, but for a wrong number. */
        int fed(int[] a, long word) {
            if (a[1] == 0 && !pending.isEmpty()) {
                a[1] = Math.min(8, pending.length());
                pending = pending.substring(a[1]);
            }
            if (out(a[1], 1, 8)) {
                return err(1);
            }
            if (s.tape.length() + a[1] > 50) {
                return err(4);
            }
            for (int k = 0; k < a[1]; k++) {
                s.tape += (char) (word >>> 8 * k & 255);
            }
            return s.tape.length();
        }

        int thought(int[] a) {
            switch (a[0]) {
                case 14: {
                    if (out(a[1], 0, 60) || noGoer(a[2]) || out(a[3], 0, 2)) {
                        return err(1);
                    }
                    State t = s.behind(a[1]);
                    G g = t.goers.get(a[2]);
                    return a[3] == 0 ? g.bearing : a[3] == 1 ? g.distance : t.isLit(g) ? 1 : 0;
                }
                case 15: {
                    int set = 0;
                    for (int g = 0; g < s.goers.size(); g++) {
                        set += s.isLit(s.goers.get(g)) ? 1 << g : 0;
                    }
                    return set;
                }
                case 16: {
                    if (out(a[1], 0, 1)) {
                        return err(1);
                    }
                    State t = s.copy();
                    for (int n = 0; n <= 60; n++) {
                        if (Integer.bitCount(t.in()) > Integer.bitCount(s.in())) {
                            for (int g = 0; a[1] == 1; g++) {
                                if (t.goers.get(g).distance == 0 && s.goers.get(g).distance != 0) {
                                    return g;
                                }
                            }
                            return n;
                        }
                        t.step();
                    }
                    return err(2);
                }
                case 17: {
                    if (out(a[1], 1, 999)) {
                        return err(1);
                    }
                    State t = s.copy();
                    for (int n = 0; n <= 60; n++) {
                        if (t.words >= s.words + a[1]) {
                            return n;
                        }
                        t.step();
                    }
                    return err(2);
                }
                case 18: {
                    if (out(a[1], 0, 60) || out(a[2], 0, 1)) {
                        return err(1);
                    }
                    int[] more = new int[16];
                    int best = 0;
                    for (int turn = 15; turn >= 0; turn--) {
                        State t = s.copy();
                        t.light[2] = turn;
                        more[turn] = t.behind(a[1]).words - s.words;
                        best = Math.max(best, more[turn]);
                    }
                    for (int turn = 0; a[2] == 0; turn++) {
                        if (more[turn] == best) {
                            return turn;
                        }
                    }
                    return best;
                }
                case 19: {
                    if (a[1] < 0 || a[1] >>> s.goers.size() != 0 || out(a[2], 0, 60)) {
                        return err(1);
                    }
                    for (int turn = 0; turn < 16; turn++) {
                        State t = s.copy();
                        t.light[2] = turn;
                        if ((t.behind(a[2]).in() & a[1]) == a[1]) {
                            return turn;
                        }
                    }
                    return err(2);
                }
                case 20: return shade(a);
                case 21: {
                    if (out(a[1], 0, 3) || noGoer(a[2]) || out(a[3], 0, 1)) {
                        return err(1);
                    }
                    if (sheets[a[1]] == null) {
                        return err(2);
                    }
                    int set = 0;
                    for (int b = 0; b < 16; b++) {
                        State t = s.copy();
                        t.light[0] = b;
                        boolean[] row = t.seen(a[2], sheets[a[1]].length);
                        boolean so = true;
                        for (int k = 0; k < row.length; k++) {
                            so &= sheets[a[1]][k] == (row[k] ? 1 : 0);
                        }
                        set += so ? 1 << b : 0;
                    }
                    return a[3] == 0 ? set : Integer.bitCount(set);
                }
                case 22: {
                    if (out(a[1], 0, 60)) {
                        return err(1);
                    }
                    int set = 0;
                    for (int g = 0; g < s.goers.size(); g++) {
                        set += s.everSeen(g, a[1]) ? 0 : 1 << g;
                    }
                    return set;
                }
                case 23: {
                    if (noGoer(a[1])) {
                        return err(1);
                    }
                    StringBuilder row = new StringBuilder();
                    for (boolean b : s.seen(a[1], 60)) {
                        row.append(b ? '1' : '0');
                    }
                    int most = 60;
                    while (row.indexOf("0".repeat(most)) < 0) {
                        most--;
                    }
                    return most;
                }
                default: return thought2(a);
            }
        }

        int shade(int[] a) {
            if (noGoer(a[1]) || out(a[2], 0, 20)) {
                return err(1);
            }
            for (int many = 0; many <= 2; many++) {
                for (int set = 0; set < 65536; set++) {
                    if (Integer.bitCount(set) == many) {
                        State t = s.copy();
                        t.light[3] |= set;
                        if (!t.everSeen(a[1], a[2])) {
                            return set;
                        }
                    }
                }
            }
            return err(2);
        }

        int thought2(int[] a) {
            switch (a[0]) {
                case 24: {
                    if (noGoer(a[1]) || out(a[2], 0, 60) || out(a[3], 0, 1)) {
                        return err(1);
                    }
                    int best = Integer.MAX_VALUE;
                    for (int b = 0; b < 16; b++) {
                        State t = s.copy();
                        t.goers.get(a[1]).bearing = b;
                        best = Math.min(best, t.behind(a[2]).goers.get(a[1]).distance * 16 + b);
                    }
                    return a[3] == 0 ? best % 16 : best / 16;
                }
                case 25: {
                    if (out(a[1], 0, 15) || out(a[2], 0, 60)) {
                        return err(1);
                    }
                    State t = s.copy();
                    t.light[3] |= 1 << a[1];
                    return s.behind(a[2]).words - t.behind(a[2]).words;
                }
                default: {
                    if (noGoer(a[1]) || out(a[2], 0, 60) || out(a[3], 0, 1)) {
                        return err(1);
                    }
                    int above = 0;
                    for (int b = 0; b < 16; b++) {
                        State t = s.copy();
                        t.light[0] = b;
                        above += t.behind(a[2]).goers.get(a[1]).distance == 0 ? 1 : 0;
                    }
                    int below = 16;
                    for (int d = 16; d > 1; d--) {
                        if (above % d == 0 && below % d == 0) {
                            above /= d;
                            below /= d;
                        }
                    }
                    return a[3] == 0 ? above : below;
                }
            }
        }

        int rest(int[] a) {
            int was;
            switch (a[0]) {
                case 27:
                    was = s.z;
                    s.z = a[1];
                    return was;
                case 28:
                    if (noGoer(a[1]) || out(a[2], 0, 3)) {
                        return err(1);
                    }
                    trace.clear();
                    return say(s.goers.get(a[1]), a[1], s.goers.get(a[1]).kind, a[2], a[3]);
                case 29: return out(a[1], 0, Math.min(40, trace.size()) - 1) ? err(2) : trace.get(a[1]);
                case 30:
                    if (out(a[1], 0, 3) || a[2] != 0 && a[2] != 8 && a[2] != 16 && a[2] != 32) {
                        return err(1);
                    }
                    if (a[2] != 0 && a[3] < 0) {
                        return err(3);
                    }
                    if (a[2] != 0 && a[3] > 40) {
                        return err(1);
                    }
                    sheets[a[1]] = a[2] == 0 ? null : new int[a[3]];
                    bits[a[1]] = a[2];
                    return 1;
                case 31: {
                    if (out(a[1], 0, 3)) {
                        return err(1);
                    }
                    if (sheets[a[1]] == null) {
                        return err(2);
                    }
                    if (out(a[2], 0, sheets[a[1]].length - 1)) {
                        return err(1);
                    }
                    sheets[a[1]][a[2]] = (int) (a[3] & (1L << bits[a[1]]) - 1);
                    return 1;
                }
                case 32: {
                    if (out(a[1], 0, 3) || out(a[3], 0, 3)) {
                        return err(1);
                    }
                    if (sheets[a[1]] == null || sheets[a[3]] == null) {
                        return err(2);
                    }
                    if (bits[a[1]] != bits[a[3]]) {
                        return err(5);
                    }
                    if (a[2] < 0 || a[4] < 0 || a[5] < 0 || (long) a[2] + a[5] > sheets[a[1]].length
                        || (long) a[4] + a[5] > sheets[a[3]].length) {
                        return err(1);
                    }
                    int[] as = sheets[a[1]].clone();
                    for (int k = 0; k < a[5]; k++) {
                        sheets[a[3]][a[4] + k] = as[a[2] + k];
                    }
                    return a[5];
                }
                case 33: {
                    if (out(a[1], 0, 3)) {
                        return err(1);
                    }
                    if (sheets[a[1]] == null) {
                        return err(2);
                    }
                    int k = 0;
                    while (k < sheets[a[1]].length && k < s.goers.size() && !out(sheets[a[1]][k], 0, 99)) {
                        s.goers.get(k).distance = sheets[a[1]][k];
                        k++;
                    }
                    return k;
                }
                case 34: {
                    if (out(a[1], 0, 3)) {
                        return err(1);
                    }
                    if (sheets[a[1]] == null) {
                        return err(2);
                    }
                    List<Integer> told = new ArrayList<>();
                    List<Integer> is = new ArrayList<>();
                    for (int v : sheets[a[1]]) {
                        told.add(v);
                    }
                    for (G g : s.goers) {
                        is.add(g.bearing);
                    }
                    for (int k = 0; k < 40 && !told.equals(is); k++) {
                        if (k >= told.size() || k >= is.size() || !told.get(k).equals(is.get(k))) {
                            return k;
                        }
                    }
                    return -1;
                }
                case 35:
                    image = s.copy();
                    return ++images;
                case 36:
                    if (image == null) {
                        return err(2);
                    }
                    s = image.copy();
                    return s.step;
                case 37:
                    if (s.waiting.size() == 20) {
                        return err(4);
                    }
                    s.waiting.add(a[1]);
                    return s.waiting.size();
                case 38: {
                    int answer = 0;
                    for (int k = s.waiting.size(); k >= 1; k--) {
                        if (s.behind(k).words != s.waiting.get(k - 1)) {
                            answer = k;
                        }
                    }
                    s.waiting.clear();
                    return answer;
                }
                case 39:
                    if (out(a[1], 0, 12)) {
                        return err(1);
                    }
                    return new int[] {s.goers.size(), s.step, s.light[0], s.light[1], s.light[2], s.light[3], s.light[4],
                        s.words, s.in(), s.tape.length(), s.waiting.size(), Math.min(40, trace.size()), s.z}[a[1]];
                default: return out(a[1], 1, 5) ? err(1) : told[a[1]];
            }
        }

        /** An act's body of a kind, or of the next kind above that has one. */
        int say(G g, int n, int kind, int act, int x) {
            int[][] bodies = {{10, 11, 12, 13}, {20, 0, 0, 0}, {0, 30, 0, 0}, {0, 0, 40, 0}, {0, 0, 0, 50}, {0, 60, 0, 0}, {0, 0, 70, 71}};
            int at = kind;
            while (bodies[at][act] == 0) {
                at = ABOVE[at];
            }
            int body = bodies[at][act];
            trace.add(body);
            int up = ABOVE[at];
            int k = g.kind;
            switch (body) {
                case 10: return x + n;
                case 11: return say(g, n, k, 0, x) * 2;
                case 12: return x - g.m;
                case 13: return say(g, n, k, 1, x) ^ say(g, n, k, 2, x);
                case 20: return say(g, n, up, 0, x) * 3;
                case 30: return say(g, n, up, 1, x) - say(g, n, k, 2, 1);
                case 40: return -say(g, n, up, 2, x);
                case 50: return say(g, n, up, 3, x) - say(g, n, k, 0, 2);
                case 60: return say(g, n, up, 1, x + 1);
                case 70: return say(g, n, up, 2, x) ^ n;
                default: return say(g, n, k, 1, x) - say(g, n, up, 3, x);
            }
        }
    }
}
