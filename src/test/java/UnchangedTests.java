import java.util.ArrayList;
import java.util.List;

/**
 * What must stay as it is: behind a call that is refused (where told() alone tells of it), behind
 * what is only thought or looked at, and behind a change that is taken back. Each time two objects
 * are made alike, one has the call besides, and all that can be seen of both is laid side by side.
 */
public final class UnchangedTests {
    private static final int LOW = -1000000000;
    private static final int BEYOND = 1;
    private static final int NONE = 2;
    private static final int STATE = 3;
    private static final int FULL = 4;
    private static final int KIND = 5;
    private static final int MIN = Integer.MIN_VALUE;
    private static final int MAX = Integer.MAX_VALUE;
    /** The standing scene has seven goers, one of each kind: 7 is the first that is none. */
    private static final int GOERS = 7;

    private interface Call {
        int on(ReadingLight x);
    }

    private interface Numbers {
        int on(ReadingLight x, int v);
    }

    private static int wrong = 0;
    private static int asked = 0;

    public static void main(String[] args) {
        sceneIsWhatItShouldBe();
        light();
        goers();
        noGoers();
        texts();
        steps();
        thoughts();
        thoughtsOfGoers();
        voices();
        sheets();
        moves();
        rest();
        looks();
        takenBack();
        System.out.println(asked - wrong + " calls left all as it was, " + wrong + " did not");
        if (wrong != 0) {
            System.exit(1);
        }
    }

    // ---- two objects side by side

    private static void fault(int promise, String what, String told) {
        wrong++;
        System.out.println("promise " + promise + ", " + what + ": " + told);
    }

    private static ReadingLight made(Call... ahead) {
        ReadingLight x = ahead.length > 0 && ahead[0] == null ? new ReadingLight() : scene();
        for (Call c : ahead) {
            if (c != null) {
                c.on(x);
            }
        }
        return x;
    }

    /** The call answers the ERROR k, and nothing is changed but what told(k) tells, which is 1 more. */
    private static void refused(int k, int promise, String what, Call call, Call... ahead) {
        beside(promise, what, call, LOW - k, k, ahead);
    }

    /** The call answers what is due (null: whatever it may be), is no ERROR, and changes nothing. */
    private static void looked(int promise, String what, Call call, Integer want, Call... ahead) {
        beside(promise, what, call, want, 0, ahead);
    }

    private static void beside(int promise, String what, Call call, Integer want, int k, Call... ahead) {
        asked++;
        ReadingLight with = made(ahead);
        ReadingLight without = made(ahead);
        int answer = call.on(with);
        if (want != null && answer != want) {
            fault(promise, what, "answered " + answer + ", due is " + want);
            return;
        }
        for (int e = BEYOND; e <= KIND; e++) {
            int due = without.told(e) + (e == k ? 1 : 0);
            int told = with.told(e);
            if (told != due) {
                fault(promise, what, "told(" + e + ") is " + told + ", due is " + due);
                return;
            }
        }
        List<String> a = allOf(with);
        List<String> b = allOf(without);
        for (int i = 0; i < Math.max(a.size(), b.size()); i++) {
            String one = i < a.size() ? a.get(i) : "-";
            String other = i < b.size() ? b.get(i) : "-";
            if (!one.equals(other)) {
                fault(promise, what, "left " + one + ", not " + other);
                return;
            }
        }
    }

    // ---- the scene, and all that can be seen of it

    private static void feed(ReadingLight x, String text) {
        for (int i = 0; i < text.length(); i++) {
            x.feed(text.charAt(i), 1);
        }
    }

    /** All that an object may hold, none of it as at first, and an image that is unlike it. */
    private static ReadingLight scene() {
        ReadingLight x = new ReadingLight();
        int[] goers = {4, 0, 9, 14, 3, 6, 25, 5, 12, 31, 1, 15, 48, 2, 5, 50, 7, 4, 67, 15, 8};
        for (int i = 0; i < goers.length; i += 3) {
            x.goer(goers[i], goers[i + 1], goers[i + 2]);
        }
        int[] settings = {12, 3, 2, 1 << 5, 0};
        for (int what = 0; what < 5; what++) {
            x.set(what, settings[what]);
        }
        feed(x, "d<30&m<9");
        x.text(0);
        feed(x, "s+i+3");
        x.text(1);
        x.words(120);
        x.seed(99);
        feed(x, "w+7");
        x.tell(5);
        x.image();
        x.check();
        x.steps(1);
        x.set(4, 14);
        x.seed(98);
        feed(x, "*3");
        x.tell(x.count(7) + 4);
        x.tell(x.count(7) + 4);
        x.tell(-8);
        x.sheet(0, 8, 4);
        x.sheet(1, 8, 3);
        x.sheet(2, 16, 2);
        for (int i = 0; i < 4; i++) {
            x.put(0, i, 11 + i);
            x.put(1, i, 21 + i);
            x.put(2, i, 31 + i);
        }
        x.voice(6, 3, 5);
        x.trace(MAX);
        x.sheet(3, 8, -1);
        x.as(0, 1);
        return x;
    }

    /** The comparison is worth no more than the scene: it has what it is meant to have. */
    private static void sceneIsWhatItShouldBe() {
        ReadingLight x = scene();
        int[] due = {GOERS, 1, 14, 3, 2, 32, 14, 120, 0, 5, 3, 9, 98};
        for (int what = 0; what < due.length; what++) {
            asked++;
            if (x.count(what) != due[what]) {
                fault(40, "the scene's count(" + what + ")", "is " + x.count(what) + ", not " + due[what]);
            }
        }
        int[] told = {0, 3, 1, 1, 0, 1};
        for (int k = BEYOND; k <= KIND; k++) {
            asked++;
            if (x.told(k) != told[k]) {
                fault(41, "the scene's told(" + k + ")", "is " + x.told(k) + ", not " + told[k]);
            }
        }
        asked++;
        if (x.check() != 3) {
            fault(39, "the scene's numbers that wait", "are not right up to the third");
        }
    }

    private static List<String> allOf(ReadingLight x) {
        List<String> all = new ArrayList<>();
        whatGoesBySteps(x, all, "");
        for (int i = 0; i < x.count(11); i++) {
            all.add("trace " + i + ": " + x.trace(i));
        }
        ofSheets(x, all);
        all.add("restore: " + x.restore());
        whatGoesBySteps(x, all, "of the image, ");
        all.add("tape of the image as a text: " + x.text(1));
        laws(x, all, "that tape, ");
        all.add("check of the image: " + x.check());
        all.add("images: " + x.image());
        return all;
    }

    private static void whatGoesBySteps(ReadingLight x, List<String> all, String of) {
        for (int what = 0; what <= 12; what++) {
            all.add(of + "count " + what + ": " + x.count(what));
        }
        for (int g = 0; g < x.count(0); g++) {
            for (int what = 0; what <= 3; what++) {
                all.add(of + "goer " + g + ", " + what + ": " + x.ofGoer(g, what));
            }
        }
        all.add(of + "lit: " + x.lit());
        laws(x, all, of);
    }

    private static void laws(ReadingLight x, List<String> all, String of) {
        for (int a = 0; a <= 40; a += 8) {
            all.add(of + "law 0 of " + a + ": " + x.law(0, a, a / 4, 3));
            all.add(of + "law 1 of " + a + ": " + x.law(1, a, a / 4, 3));
        }
    }

    /** Sheets can't be read, but their numbers may become distances. What waits, and the tape, go by themselves. */
    private static void ofSheets(ReadingLight x, List<String> all) {
        all.add("check: " + x.check());
        all.add("tape as a text: " + x.text(1));
        laws(x, all, "the tape, ");
        for (int s = 0; s <= 3; s++) {
            for (int i = 0; i <= 4; i += 2) {
                all.add("sheet " + s + " from " + i + " on: " + x.move(s, i, s, 0, 2) + " " + x.distances(s)
                    + " " + x.ofGoer(0, 3) + " " + x.ofGoer(1, 3) + " " + x.ofGoer(2, 3) + " " + x.ofGoer(3, 3));
            }
            for (int bits = 8; bits <= 16; bits += 8) {
                all.add("sheet " + s + ", bits: " + x.put(s, 0, (1 << bits) + 5) + " " + x.distances(s));
            }
            all.add("sheet " + s + ", the last: " + x.put(s, 39, 0));
        }
    }

    // ---- the light, the chair, goers

    /** The first numbers that are not allowed, on both sides, and the farthest. */
    private static void outside(int k, int promise, String what, int below, int above, Numbers call, Call... ahead) {
        for (int v : new int[] {below, above, MIN, MAX}) {
            refused(k, promise, what + " " + v, x -> call.on(x, v), ahead);
        }
    }

    private static void light() {
        int[] least = {0, 1, 0, 0, 0};
        int[] most = {15, 8, 15, 65535, 15};
        for (int i = 0; i <= 4; i++) {
            int what = i;
            outside(BEYOND, 2, "set(" + what + ", v)", least[what] - 1, most[what] + 1, (x, v) -> x.set(what, v));
        }
        outside(BEYOND, 2, "set(what, 1)", -1, 5, (x, v) -> x.set(v, 1));
        for (int i = 0; i <= 1; i++) {
            int what = i;
            outside(BEYOND, 3, "ofBearing(b, " + what + ")", -1, 16, (x, v) -> x.ofBearing(v, what));
        }
        outside(BEYOND, 3, "ofBearing(0, what)", -1, 2, (x, v) -> x.ofBearing(0, v));
        outside(BEYOND, 7, "words(v)", -1, 100000, (x, v) -> x.words(v));
        outside(BEYOND, 40, "count(what)", -1, 13, (x, v) -> x.count(v));
        outside(BEYOND, 41, "told(k)", 0, 6, (x, v) -> x.told(v));
        outside(BEYOND, 41, "told(k)", -1, 7, (x, v) -> x.told(v));
    }

    private static void goers() {
        outside(BEYOND, 4, "goer(km, 0, 0)", -1, 70, (x, v) -> x.goer(v, 0, 0));
        outside(BEYOND, 4, "goer(0, b, 0)", -1, 16, (x, v) -> x.goer(0, v, 0));
        outside(BEYOND, 4, "goer(0, 0, d)", -1, 100, (x, v) -> x.goer(0, 0, v));
        Call eighth = x -> x.goer(35, 8, 50);
        refused(FULL, 4, "a ninth goer", x -> x.goer(0, 0, 0), eighth);
        refused(FULL, 4, "a ninth goer of most", x -> x.goer(69, 15, 99), eighth);
        outside(BEYOND, 4, "full, and goer(km, 0, 0)", -1, 70, (x, v) -> x.goer(v, 0, 0), eighth);
        outside(BEYOND, 4, "full, and goer(0, b, 0)", -1, 16, (x, v) -> x.goer(0, v, 0), eighth);
        outside(BEYOND, 4, "full, and goer(0, 0, d)", -1, 100, (x, v) -> x.goer(0, 0, v), eighth);

        outside(BEYOND, 5, "ofGoer(goer, 0)", -1, GOERS, (x, v) -> x.ofGoer(v, 0));
        outside(BEYOND, 5, "ofGoer(0, what)", -1, 7, (x, v) -> x.ofGoer(0, v));
        outside(BEYOND, 5, "eight, and ofGoer(goer, 0)", -1, 8, (x, v) -> x.ofGoer(v, 0), eighth);

        outside(BEYOND, 6, "change(goer, 0, 1)", -1, GOERS, (x, v) -> x.change(v, 0, 1));
        outside(BEYOND, 6, "change(0, what, 1)", -1, 2, (x, v) -> x.change(0, v, 1));
        outside(BEYOND, 6, "change(0, 0, v)", -1, 16, (x, v) -> x.change(0, 0, v));
        outside(BEYOND, 6, "change(0, 1, v)", -1, 100, (x, v) -> x.change(0, 1, v));

        outside(BEYOND, 8, "become(goer, 11)", -1, GOERS, (x, v) -> x.become(v, 11));
        outside(BEYOND, 8, "become(0, km)", -1, 70, (x, v) -> x.become(0, v));

        outside(BEYOND, 9, "as(goer, 0)", -1, GOERS, (x, v) -> x.as(v, 0));
        outside(BEYOND, 9, "as(0, kind), ahead of KIND", -1, 7, (x, v) -> x.as(0, v));
        int[] above = {0, 0, 0, 0, 1, 2, 3};
        for (int g = 0; g < GOERS; g++) {
            for (int kind = 1; kind <= 6; kind++) {
                int one = g;
                int as = kind;
                if (kind != g && kind != above[g]) {
                    refused(KIND, 9, "as(" + g + ", " + kind + ")", x -> x.as(one, as));
                }
            }
        }
    }

    /** Where there are no goers yet, there is no goer 0; one who came behind the image is none behind restore(). */
    private static void noGoers() {
        Call bare = null;
        refused(BEYOND, 5, "none yet, ofGoer", x -> x.ofGoer(0, 0), bare);
        refused(BEYOND, 6, "none yet, change", x -> x.change(0, 0, 0), bare);
        refused(BEYOND, 8, "none yet, become", x -> x.become(0, 0), bare);
        refused(BEYOND, 9, "none yet, as", x -> x.as(0, 0), bare);
        refused(BEYOND, 15, "none yet, then", x -> x.then(0, 0, 0), bare);
        refused(NONE, 17, "none yet, first", x -> x.first(1), bare);
        refused(BEYOND, 20, "none yet, lead", x -> x.lead(1, 0), bare);
        refused(BEYOND, 21, "none yet, shade", x -> x.shade(0, 0), bare);
        refused(BEYOND, 22, "none yet, stood", x -> x.stood(0, 0, 0), bare, x -> x.sheet(0, 8, 1));
        refused(BEYOND, 24, "none yet, longest", x -> x.longest(0), bare);
        refused(BEYOND, 25, "none yet, from", x -> x.from(0, 0, 0), bare);
        refused(BEYOND, 27, "none yet, odds", x -> x.odds(0, 0, 0), bare);
        refused(BEYOND, 29, "none yet, voice", x -> x.voice(0, 0, 0), bare);
        refused(BEYOND, 37, "one that came behind the image", x -> x.ofGoer(GOERS, 0), x -> x.goer(0, 0, 1), ReadingLight::restore);
    }

    // ---- texts

    /** Brings the tape of the scene, which has five bytes, to so many. */
    private static Call tapeOf(int bytes) {
        return x -> {
            for (int i = x.count(9); i < bytes; i++) {
                x.feed('0' + i % 10, 1);
            }
            return 0;
        };
    }

    private static void texts() {
        outside(BEYOND, 10, "feed(w, n)", 0, 9, (x, v) -> x.feed(-1L, v));
        outside(BEYOND, 10, "feed(w, n)", -1, 256, (x, v) -> x.feed(-1L, v));
        for (int i = 1; i <= 8; i++) {
            int n = i;
            refused(FULL, 10, "one too many of " + n, x -> x.feed(0x2b2b2b2b2b2b2b2bL, n), tapeOf(51 - n));
        }
        refused(FULL, 10, "eight onto a full one", x -> x.feed(0, 8), tapeOf(50));
        outside(BEYOND, 10, "full, and feed(w, n)", 0, 9, (x, v) -> x.feed(0, v), tapeOf(50));
        outside(BEYOND, 11, "text(use): the tape stays", -1, 2, (x, v) -> x.text(v));
        outside(BEYOND, 11, "text(use) of a full tape", -1, 2, (x, v) -> x.text(v), tapeOf(50));
        outside(BEYOND, 12, "law(use, 1, 2, 3)", -1, 2, (x, v) -> x.law(v, 1, 2, 3));

        // A fault is no ERROR: it leaves what an empty tape and the texts ahead would be.
        asked++;
        ReadingLight x = scene();
        ReadingLight y = scene();
        y.text(1);
        y.restore();
        x.restore();
        feed(x, "+");
        int answer = x.text(1);
        y.text(1);
        feed(y, "s+i+3");
        y.text(1);
        if (answer != -14 || !allOf(x).equals(allOf(y))) {
            fault(11, "w+7+ as a text", "answered " + answer + ", or changed more than the tape");
        }
        for (int k = BEYOND; k <= KIND; k++) {
            if (x.told(k) != y.told(k)) {
                fault(11, "a fault", "is told as ERROR " + k);
            }
        }
    }

    // ---- steps

    private static Call atStep(int step) {
        return x -> {
            // An object has 512 calls: the step is reckoned here, not asked for.
            for (int at = 0; at < step; at += 60) {
                x.steps(Math.min(60, step - at));
            }
            return 0;
        };
    }

    private static void steps() {
        outside(BEYOND, 13, "steps(n)", 0, 61, (x, v) -> x.steps(v));
        outside(BEYOND, 14, "loose(n)", 0, 41, (x, v) -> x.loose(v));
        refused(STATE, 13, "steps(1) at 9999", x -> x.steps(1), atLast(9999));
        refused(STATE, 13, "steps(60) at 9999", x -> x.steps(60), atLast(9999));
        refused(STATE, 13, "steps(60) at 9940", x -> x.steps(60), atLast(9940));
        refused(STATE, 13, "steps(2) at 9998", x -> x.steps(2), atLast(9998));
        refused(STATE, 14, "loose(1) at 9999", x -> x.loose(1), atLast(9999));
        refused(STATE, 14, "loose(40) at 9960", x -> x.loose(40), atLast(9960));
        refused(STATE, 14, "loose(2) at 9998", x -> x.loose(2), atLast(9998));
        outside(BEYOND, 13, "at 9999, steps(n)", 0, 61, (x, v) -> x.steps(v), atLast(9999));
        outside(BEYOND, 14, "at 9999, loose(n)", 0, 41, (x, v) -> x.loose(v), atLast(9999));
    }

    /** At a late step, with few calls: the steps are gone first, on a bare object, then it is furnished. */
    private static Call[] atLast(int step) {
        return new Call[] {null, atStep(step), x -> x.goer(50, 3, 9), x -> x.goer(31, 0, 9), x -> x.goer(62, 0, 9),
            x -> x.seed(77), x -> x.set(2, 5), x -> x.tell(3), ReadingLight::image, x -> x.set(1, 8)};
    }

    // ---- what would be

    private static void thoughts() {
        outside(BEYOND, 15, "then(n, 0, 0)", -1, 61, (x, v) -> x.then(v, 0, 0));
        outside(BEYOND, 15, "then(0, goer, 0)", -1, GOERS, (x, v) -> x.then(0, v, 0));
        outside(BEYOND, 15, "then(0, 0, what)", -1, 3, (x, v) -> x.then(0, 0, v));

        Call allCats = x -> {
            for (int g = 0; g < GOERS; g++) {
                x.become(g, 30);
            }
            return 0;
        };
        outside(BEYOND, 17, "first(what)", -1, 2, (x, v) -> x.first(v));
        refused(NONE, 17, "first(0), and none comes", x -> x.first(0), allCats);
        refused(NONE, 17, "first(1), and none comes", x -> x.first(1), allCats);
        outside(BEYOND, 17, "first(what), and none comes", -1, 2, (x, v) -> x.first(v), allCats);

        Call noChair = x -> x.set(3, 65535);
        outside(BEYOND, 18, "reads(v)", 0, 1000, (x, v) -> x.reads(v));
        refused(NONE, 18, "reads(1) in the dark", x -> x.reads(1), noChair);
        refused(NONE, 18, "reads(999) in the dark", x -> x.reads(999), noChair);
        outside(BEYOND, 18, "reads(v) in the dark", 0, 1000, (x, v) -> x.reads(v), noChair);

        outside(BEYOND, 19, "pace(n, 0)", -1, 61, (x, v) -> x.pace(v, 0));
        outside(BEYOND, 19, "pace(0, what)", -1, 2, (x, v) -> x.pace(0, v));

        outside(BEYOND, 20, "lead(goers, 9)", -1, 1 << GOERS, (x, v) -> x.lead(v, 9));
        outside(BEYOND, 20, "lead(goers and one that is none, 9)", -128, (1 << GOERS) + 1, (x, v) -> x.lead(v, 9));
        outside(BEYOND, 20, "eight, and lead(goers, 9)", -1, 256, (x, v) -> x.lead(v, 9), x -> x.goer(0, 0, 0));
        outside(BEYOND, 20, "lead(1, n)", -1, 61, (x, v) -> x.lead(1, v));
        refused(NONE, 20, "lead for the cat", x -> x.lead(8, 60));
        refused(NONE, 20, "lead for all", x -> x.lead(127, 60));
        refused(NONE, 20, "lead by 0 for one who isn't IN", x -> x.lead(1, 0));
        outside(BEYOND, 20, "lead(8, n)", -1, 61, (x, v) -> x.lead(8, v));

        outside(BEYOND, 23, "dark(n)", -1, 61, (x, v) -> x.dark(v));
        outside(BEYOND, 26, "cost(b, 9)", -1, 16, (x, v) -> x.cost(v, 9));
        outside(BEYOND, 26, "cost(0, n)", -1, 61, (x, v) -> x.cost(0, v));
    }

    private static void thoughtsOfGoers() {
        outside(BEYOND, 21, "shade(goer, 9)", -1, GOERS, (x, v) -> x.shade(v, 9));
        outside(BEYOND, 21, "shade(0, n)", -1, 21, (x, v) -> x.shade(0, v));

        outside(BEYOND, 22, "stood(sheet, 0, 0)", -1, 4, (x, v) -> x.stood(v, 0, 0));
        outside(BEYOND, 22, "stood(0, goer, 0)", -1, GOERS, (x, v) -> x.stood(0, v, 0));
        outside(BEYOND, 22, "stood(0, 0, what)", -1, 2, (x, v) -> x.stood(0, 0, v));
        refused(NONE, 22, "stood by a sheet that is missing", x -> x.stood(3, 0, 0));
        refused(NONE, 22, "stood by a sheet that is missing again", x -> x.stood(0, 0, 1), x -> x.sheet(0, 0, 4));
        outside(BEYOND, 22, "missing, and stood(3, goer, 0)", -1, GOERS, (x, v) -> x.stood(3, v, 0));
        outside(BEYOND, 22, "missing, and stood(3, 0, what)", -1, 2, (x, v) -> x.stood(3, 0, v));

        outside(BEYOND, 24, "longest(goer)", -1, GOERS, (x, v) -> x.longest(v));

        outside(BEYOND, 25, "from(goer, 9, 0)", -1, GOERS, (x, v) -> x.from(v, 9, 0));
        outside(BEYOND, 25, "from(0, n, 0)", -1, 61, (x, v) -> x.from(0, v, 0));
        outside(BEYOND, 25, "from(0, 9, what)", -1, 2, (x, v) -> x.from(0, 9, v));

        outside(BEYOND, 27, "odds(goer, 9, 0)", -1, GOERS, (x, v) -> x.odds(v, 9, 0));
        outside(BEYOND, 27, "odds(0, n, 0)", -1, 61, (x, v) -> x.odds(0, v, 0));
        outside(BEYOND, 27, "odds(0, 9, part)", -1, 2, (x, v) -> x.odds(0, 9, v));
    }

    // ---- draws, voices, sheets, images, what is told

    private static void voices() {
        outside(BEYOND, 29, "voice(goer, 3, 1): the trace stays", -1, GOERS, (x, v) -> x.voice(v, 3, 1));
        outside(BEYOND, 29, "voice(0, act, 1): the trace stays", -1, 4, (x, v) -> x.voice(0, v, 1));
        outside(NONE, 30, "trace(i)", -1, 9, (x, v) -> x.trace(v));
        outside(NONE, 30, "trace(i), far", -40, 40, (x, v) -> x.trace(v));
        outside(NONE, 30, "trace(i) of a shorter one", -1, 1, (x, v) -> x.trace(v), x -> x.voice(0, 0, 1));
        outside(NONE, 30, "trace(i) where no voice was", -1, 0, (x, v) -> x.trace(v), (Call) null);
    }

    private static void sheets() {
        outside(BEYOND, 31, "sheet(sheet, 8, 1)", -1, 4, (x, v) -> x.sheet(v, 8, 1));
        outside(BEYOND, 31, "sheet(sheet, 8, -1), ahead of STATE", -1, 4, (x, v) -> x.sheet(v, 8, -1));
        outside(BEYOND, 31, "sheet(sheet, 0, 0)", -1, 4, (x, v) -> x.sheet(v, 0, 0));
        for (int bits : new int[] {-32, -16, -8, -1, 1, 2, 4, 7, 9, 12, 15, 17, 24, 31, 33, 64, 264, MIN, MAX}) {
            refused(BEYOND, 31, "sheet(0, " + bits + ", 1)", x -> x.sheet(0, bits, 1));
            refused(BEYOND, 31, "sheet(0, " + bits + ", -1), ahead of STATE", x -> x.sheet(0, bits, -1));
        }
        for (int bits = 8; bits <= 32; bits *= 2) {
            int of = bits;
            refused(STATE, 31, "sheet(0, " + of + ", -1)", x -> x.sheet(0, of, -1));
            refused(STATE, 31, "sheet(0, " + of + ", MIN)", x -> x.sheet(0, of, MIN));
            refused(BEYOND, 31, "sheet(0, " + of + ", 41)", x -> x.sheet(0, of, 41));
            refused(BEYOND, 31, "sheet(0, " + of + ", MAX)", x -> x.sheet(0, of, MAX));
            refused(STATE, 31, "a missing one, sheet(3, " + of + ", -1)", x -> x.sheet(3, of, -1));
        }

        outside(BEYOND, 32, "put(sheet, 0, 1)", -1, 4, (x, v) -> x.put(v, 0, 1));
        refused(NONE, 32, "put on one that is missing", x -> x.put(3, 0, 1));
        outside(NONE, 32, "put(3, i, 1), ahead of no such number", -1, 40, (x, v) -> x.put(3, v, 1));
        outside(BEYOND, 32, "put(0, i, 1)", -1, 4, (x, v) -> x.put(0, v, 1));
        outside(BEYOND, 32, "put(1, i, 1)", -1, 3, (x, v) -> x.put(1, v, 1));
        outside(BEYOND, 32, "put(3, i, 1) of 40", -1, 40, (x, v) -> x.put(3, v, 1), x -> x.sheet(3, 32, 40));
        outside(BEYOND, 32, "put(3, i, 1) of none", -1, 0, (x, v) -> x.put(3, v, 1), x -> x.sheet(3, 32, 0));

        outside(BEYOND, 34, "distances(sheet)", -1, 4, (x, v) -> x.distances(v));
        refused(NONE, 34, "distances of one that is missing", x -> x.distances(3));
        outside(BEYOND, 35, "judge(sheet)", -1, 4, (x, v) -> x.judge(v));
        refused(NONE, 35, "judge by one that is missing", x -> x.judge(3));
        refused(NONE, 35, "judge by one that is missing again", x -> x.judge(2), x -> x.sheet(2, 0, 40));
    }

    private static void moves() {
        outside(BEYOND, 33, "move(sheet, 0, 0, 0, 1)", -1, 4, (x, v) -> x.move(v, 0, 0, 0, 1));
        outside(BEYOND, 33, "move(0, 0, other, 0, 1)", -1, 4, (x, v) -> x.move(0, 0, v, 0, 1));
        outside(BEYOND, 33, "move(3, 0, other, 0, 1), ahead of NONE", -1, 4, (x, v) -> x.move(3, 0, v, 0, 1));
        outside(BEYOND, 33, "move(sheet, 0, 3, 0, 1), ahead of NONE", -1, 4, (x, v) -> x.move(v, 0, 3, 0, 1));
        refused(NONE, 33, "from one that is missing", x -> x.move(3, 0, 0, 0, 1));
        refused(NONE, 33, "to one that is missing", x -> x.move(0, 0, 3, 0, 1));
        refused(NONE, 33, "one that is missing, to itself", x -> x.move(3, 0, 3, 0, 0));
        refused(NONE, 33, "missing, ahead of numbers that aren't", x -> x.move(0, -1, 3, -1, -1));
        refused(NONE, 33, "missing, ahead of numbers that aren't", x -> x.move(3, 99, 0, 99, 99));
        refused(KIND, 33, "unlike bits", x -> x.move(0, 0, 2, 0, 1));
        refused(KIND, 33, "unlike bits, back", x -> x.move(2, 0, 0, 0, 1));
        refused(KIND, 33, "unlike bits, none of them", x -> x.move(0, 0, 2, 0, 0));
        refused(KIND, 33, "unlike bits, ahead of numbers that aren't", x -> x.move(0, -1, 2, 99, MAX));
        refused(KIND, 33, "16 and 32", x -> x.move(2, 0, 3, 0, 1), x -> x.sheet(3, 32, 4));
        refused(KIND, 33, "32 and 8", x -> x.move(3, 0, 0, 0, 1), x -> x.sheet(3, 32, 4));

        // Sheet 0 has four numbers, sheet 1 three.
        outside(BEYOND, 33, "move(0, 0, 1, 0, n)", -1, 4, (x, v) -> x.move(0, 0, 1, 0, v));
        outside(BEYOND, 33, "move(1, 0, 0, 0, n)", -1, 4, (x, v) -> x.move(1, 0, 0, 0, v));
        outside(BEYOND, 33, "move(0, 0, 0, 0, n)", -1, 5, (x, v) -> x.move(0, 0, 0, 0, v));
        outside(BEYOND, 33, "move(0, i, 1, 0, 1)", -1, 4, (x, v) -> x.move(0, v, 1, 0, 1));
        outside(BEYOND, 33, "move(0, i, 1, 0, 0)", -1, 5, (x, v) -> x.move(0, v, 1, 0, 0));
        outside(BEYOND, 33, "move(0, i, 1, 0, 3)", -1, 2, (x, v) -> x.move(0, v, 1, 0, 3));
        outside(BEYOND, 33, "move(0, 0, 1, j, 1)", -1, 3, (x, v) -> x.move(0, 0, 1, v, 1));
        outside(BEYOND, 33, "move(0, 0, 1, j, 0)", -1, 4, (x, v) -> x.move(0, 0, 1, v, 0));
        outside(BEYOND, 33, "move(0, 0, 1, j, 3)", -1, 1, (x, v) -> x.move(0, 0, 1, v, 3));
        outside(BEYOND, 33, "move(0, i, 0, i, MAX)", 1, 4, (x, v) -> x.move(0, v, 0, v, MAX));
        outside(BEYOND, 33, "move(0, i, 0, i, MIN)", 1, 4, (x, v) -> x.move(0, v, 0, v, MIN));
        refused(BEYOND, 33, "i and n go round to 0", x -> x.move(0, MIN, 1, 0, MIN));
        refused(BEYOND, 33, "j and n go round to 0", x -> x.move(0, 0, 1, MIN, MIN));
        refused(BEYOND, 33, "i and n go round below 0", x -> x.move(0, MAX, 1, 0, 1));
    }

    private static void rest() {
        refused(NONE, 37, "restore where there is no image", ReadingLight::restore, (Call) null);
        Call twentyWait = x -> {
            while (x.count(10) < 20) {
                x.tell(x.count(10));
            }
            return 0;
        };
        for (int v : new int[] {0, 1, -1, MIN, MAX}) {
            refused(FULL, 38, "a twenty-first, " + v, x -> x.tell(v), twentyWait);
        }
    }

    // ---- what is only thought or looked at

    private static void looks() {
        int[] ns = {0, 1, 20, 60};
        for (int n : ns) {
            for (int what = 0; what <= 2; what++) {
                int of = what;
                looked(15, "then", x -> x.then(n, 3, of), null);
            }
            for (int what = 0; what <= 1; what++) {
                int of = what;
                looked(19, "pace", x -> x.pace(n, of), null);
                looked(25, "from", x -> x.from(3, n, of), null);
                looked(27, "odds", x -> x.odds(1, n, of), null);
            }
            looked(20, "lead", x -> x.lead(0, n), 0);
            looked(23, "dark", x -> x.dark(n), null);
            looked(26, "cost", x -> x.cost(0, n), null);
        }
        looked(20, "lead", x -> x.lead(1, 60), 0);
        looked(16, "lit", ReadingLight::lit, null);
        for (int what = 0; what <= 1; what++) {
            int of = what;
            looked(17, "first", x -> x.first(of), null);
            looked(22, "stood", x -> x.stood(0, 0, of), 0);
            looked(22, "stood", x -> x.stood(3, 0, of), null, x -> x.sheet(3, 8, 40));
        }
        looked(18, "reads", x -> x.reads(1), null);
        for (int g = 0; g < GOERS; g++) {
            int one = g;
            looked(21, "shade", x -> x.shade(one, 20), null);
            looked(24, "longest", x -> x.longest(one), null);
            looked(9, "as", x -> x.as(one, one), null);
            for (int what = 0; what <= 6; what++) {
                int of = what;
                looked(5, "ofGoer", x -> x.ofGoer(one, of), null);
            }
        }
        looked(3, "ofBearing", x -> x.ofBearing(0, 0), null);
        looked(3, "ofBearing", x -> x.ofBearing(0, 1), null);
        looked(12, "law", x -> x.law(0, 5, 5, 5), 1);
        looked(12, "law", x -> x.law(1, 5, 5, 5), 13);
        looked(30, "trace", x -> x.trace(8), 12);
        looked(35, "judge", x -> x.judge(0), 0);
        for (int what = 0; what <= 12; what++) {
            int of = what;
            looked(40, "count", x -> x.count(of), null);
        }
        for (int k = BEYOND; k <= KIND; k++) {
            int of = k;
            looked(41, "told", x -> x.told(of), null);
        }
    }

    // ---- what is changed and taken back

    private static int both(int first, int second) {
        return second;
    }

    private static void takenBack() {
        int[] settings = {14, 3, 2, 32, 14};
        int[] others = {0, 8, 15, 65535, 3};
        for (int i = 0; i < 5; i++) {
            int what = i;
            looked(2, "set and back", x -> both(x.set(what, others[what]), x.set(what, settings[what])), others[what]);
        }
        looked(6, "bearing and back", x -> both(x.change(1, 0, 15), x.change(1, 0, 3)), 15);
        looked(6, "distance and back", x -> both(x.change(1, 1, 99), x.change(1, 1, 6)), 99);
        looked(7, "words and back", x -> both(x.words(99999), x.words(120)), 99999);
        looked(8, "kind and back", x -> both(x.become(1, 69), x.become(1, 14)), 6);
        looked(28, "seed and back", x -> both(x.seed(MIN), x.seed(98)), MIN);
        looked(31, "a sheet and missing again", x -> both(x.sheet(3, 16, 40), x.sheet(3, 0, -1)), 1);
        looked(32, "put and back", x -> both(x.put(0, 3, -1), x.put(0, 3, 14)), 1);
        looked(33, "there and back", x -> both(x.move(0, 0, 0, 0, 4), x.move(0, 1, 0, 1, 0)), 0);
        looked(29, "another voice and the first", x -> both(x.voice(0, 1, 9), x.voice(6, 3, 5)), null);
        looked(37, "restore twice", ReadingLight::restore, 0, ReadingLight::restore);
        looked(34, "none of none", x -> x.distances(3), 0, x -> x.sheet(3, 8, 0));
        looked(34, "the first is not 0 to 99", x -> x.distances(3), 0, x -> x.sheet(3, 8, 2), x -> x.put(3, 0, 100));
        looked(39, "none wait", ReadingLight::check, 0, ReadingLight::check);
    }
}
