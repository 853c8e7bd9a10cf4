/** For each promise of the document: ordinary inputs, the edges that it names, wrong inputs. */
public final class PromiseTests {
    private static final int LOW = -1000000000;
    private static final int BEYOND = LOW - 1;
    private static final int NONE = LOW - 2;
    private static final int STATE = LOW - 3;
    private static final int FULL = LOW - 4;
    private static final int KIND = LOW - 5;
    private static final int MIN = Integer.MIN_VALUE;
    private static final int MAX = Integer.MAX_VALUE;

    private static int wrong = 0;
    private static int asked = 0;

    private static void due(int promise, String what, long got, long want) {
        asked++;
        if (got != want) {
            wrong++;
            System.out.println("promise " + promise + ", " + what + ": answered " + got + ", due is " + want);
        }
    }

    /** Brings a text to the tape, eight bytes at a time. */
    private static void feed(ReadingLight x, String text) {
        for (int from = 0; from < text.length(); from += 8) {
            int n = Math.min(8, text.length() - from);
            long word = 0;
            for (int i = n - 1; i >= 0; i--) {
                word = word << 8 | text.charAt(from + i);
            }
            x.feed(word, n);
        }
    }

    private static int text(ReadingLight x, int use, String text) {
        feed(x, text);
        return x.text(use);
    }

    /** What a text gives as use 1, with names 7, 3, 2. */
    private static int worth(String text) {
        ReadingLight x = new ReadingLight();
        int answer = text(x, 1, text);
        return answer == 1 ? x.law(1, 7, 3, 2) : answer;
    }

    private static ReadingLight withGoers(int... kmBearingDistance) {
        ReadingLight x = new ReadingLight();
        for (int i = 0; i + 2 < kmBearingDistance.length; i += 3) {
            x.goer(kmBearingDistance[i], kmBearingDistance[i + 1], kmBearingDistance[i + 2]);
        }
        return x;
    }

    private static ReadingLight withSheet(ReadingLight x, int sheet, int bits, int... numbers) {
        x.sheet(sheet, bits, numbers.length);
        for (int i = 0; i < numbers.length; i++) {
            x.put(sheet, i, numbers[i]);
        }
        return x;
    }

    public static void main(String[] args) {
        newObject();
        set();
        ofBearing();
        goer();
        ofGoer();
        changeAndWords();
        becomeAndAs();
        feedTape();
        texts();
        faults();
        law();
        steps();
        loose();
        then();
        lit();
        first();
        reads();
        pace();
        lead();
        shade();
        stood();
        dark();
        longest();
        from();
        cost();
        odds();
        voices();
        sheets();
        moves();
        distancesAndJudge();
        images();
        tellAndCheck();
        told();
        System.out.println(asked - wrong + " answers as due, " + wrong + " not");
        if (wrong != 0) {
            System.exit(1);
        }
    }

    private static void newObject() {
        ReadingLight x = new ReadingLight();
        int[] want = {0, 0, 0, 1, 1, 0, 0, 0, 0, 0, 0, 0, 1};
        for (int what = 0; what < want.length; what++) {
            due(1, "count(" + what + ")", x.count(what), want[what]);
        }
        due(40, "count(-1)", x.count(-1), BEYOND);
        due(40, "count(13)", x.count(13), BEYOND);
        for (int k = 2; k <= 5; k++) {
            due(1, "told(" + k + ")", x.told(k), 0);
        }
        due(1, "no sheet", x.judge(0), NONE);
        due(1, "no image", x.restore(), NONE);
        due(1, "no trace", x.trace(0), NONE);
    }

    private static void set() {
        ReadingLight x = new ReadingLight();
        int[] least = {0, 1, 0, 0, 0};
        int[] most = {15, 8, 15, 65535, 15};
        int[] before = {0, 1, 1, 0, 0};
        for (int what = 0; what <= 4; what++) {
            due(2, "most of " + what, x.set(what, most[what]), before[what]);
            due(2, "too much of " + what, x.set(what, most[what] + 1), BEYOND);
            due(2, "too little of " + what, x.set(what, least[what] - 1), BEYOND);
            due(2, "stays", x.count(what == 4 ? 6 : what + 2), most[what]);
            due(2, "least of " + what, x.set(what, least[what]), most[what]);
            due(40, "count", x.count(what == 4 ? 6 : what + 2), least[what]);
        }
        due(2, "what -1", x.set(-1, 1), BEYOND);
        due(2, "what 5", x.set(5, 1), BEYOND);
    }

    private static void ofBearing() {
        ReadingLight x = withGoers(0, 14, 5, 10, 1, 5, 20, 14, 0);
        x.set(0, 14);
        x.set(1, 4);
        x.set(3, 1);
        int[] on = {0, 1, 0, 0, 0, 0, 0, 0, 0, 0, 0, 0, 0, 0, 1, 1};
        for (int b = 0; b < 16; b++) {
            due(3, "on " + b, x.ofBearing(b, 0), on[b]);
        }
        due(3, "goers at 14, one of them IN", x.ofBearing(14, 1), 5);
        due(3, "goers at 1", x.ofBearing(1, 1), 2);
        due(3, "goers at 2", x.ofBearing(2, 1), 0);
        due(3, "bearing -1", x.ofBearing(-1, 0), BEYOND);
        due(3, "bearing 16", x.ofBearing(16, 1), BEYOND);
        due(3, "what 2", x.ofBearing(0, 2), BEYOND);
        due(3, "what -1", x.ofBearing(0, -1), BEYOND);
    }

    private static void goer() {
        ReadingLight x = new ReadingLight();
        due(4, "km -1", x.goer(-1, 0, 0), BEYOND);
        due(4, "km 70", x.goer(70, 0, 0), BEYOND);
        due(4, "bearing -1", x.goer(0, -1, 0), BEYOND);
        due(4, "bearing 16", x.goer(0, 16, 0), BEYOND);
        due(4, "distance -1", x.goer(0, 0, -1), BEYOND);
        due(4, "distance 100", x.goer(0, 0, 100), BEYOND);
        due(4, "none came of it", x.count(0), 0);
        for (int g = 0; g < 8; g++) {
            due(4, "number", x.goer(69, 15, 99), g);
        }
        due(4, "a ninth", x.goer(0, 0, 0), FULL);
        due(4, "a ninth, beyond first", x.goer(70, 0, 0), BEYOND);
        due(40, "goers", x.count(0), 8);
    }

    private static void ofGoer() {
        // All at bearing 0, where the light is, at 5; then at 1, where it isn't.
        int[] comesLit = {1, 1, 0, 0, 2, -1, 2};
        int[] comesDark = {1, 0, 1, 0, 0, 1, 2};
        int[] roundLit = {0, 0, 0, 1, 0, 0, 2};
        for (int kind = 0; kind <= 6; kind++) {
            ReadingLight x = withGoers(kind * 10 + 8, 0, 5);
            due(5, "kind", x.ofGoer(0, 0), kind);
            due(5, "m", x.ofGoer(0, 1), 8);
            due(5, "bearing", x.ofGoer(0, 2), 0);
            due(5, "distance", x.ofGoer(0, 3), 5);
            due(5, "lit", x.ofGoer(0, 4), 1);
            due(5, "comes, lit, " + kind, x.ofGoer(0, 5), comesLit[kind]);
            due(5, "round, lit, " + kind, x.ofGoer(0, 6), roundLit[kind]);
            x.change(0, 0, 1);
            due(5, "dark", x.ofGoer(0, 4), 0);
            due(5, "comes, dark, " + kind, x.ofGoer(0, 5), comesDark[kind]);
            due(5, "round, dark, " + kind, x.ofGoer(0, 6), 0);
            due(5, "what 7", x.ofGoer(0, 7), BEYOND);
            due(5, "what -1", x.ofGoer(0, -1), BEYOND);
            due(5, "goer 1", x.ofGoer(1, 0), BEYOND);
            due(5, "goer -1", x.ofGoer(-1, 0), BEYOND);
        }
        ReadingLight x = withGoers(0, 0, 19, 0, 0, 20);
        due(5, "lit at 19", x.ofGoer(0, 4), 1);
        due(5, "not at 20", x.ofGoer(1, 4), 0);
    }

    private static void changeAndWords() {
        ReadingLight x = withGoers(0, 3, 4);
        due(6, "bearing", x.change(0, 0, 15), 3);
        due(6, "distance", x.change(0, 1, 99), 4);
        due(6, "bearing 16", x.change(0, 0, 16), BEYOND);
        due(6, "bearing -1", x.change(0, 0, -1), BEYOND);
        due(6, "distance 100", x.change(0, 1, 100), BEYOND);
        due(6, "distance -1", x.change(0, 1, -1), BEYOND);
        due(6, "what 2", x.change(0, 2, 0), BEYOND);
        due(6, "what -1", x.change(0, -1, 0), BEYOND);
        due(6, "goer 1", x.change(1, 0, 0), BEYOND);
        due(6, "bearing stays", x.ofGoer(0, 2), 15);
        due(6, "distance stays", x.ofGoer(0, 3), 99);
        due(6, "bearing 0", x.change(0, 0, 0), 15);
        due(6, "distance 0", x.change(0, 1, 0), 99);
        due(6, "IN", x.count(8), 1);
        due(7, "words", x.words(99999), 0);
        due(7, "too many", x.words(100000), BEYOND);
        due(7, "too few", x.words(-1), BEYOND);
        due(7, "stay", x.words(0), 99999);
    }

    private static void becomeAndAs() {
        ReadingLight x = withGoers(7, 3, 4);
        due(8, "a bull", x.become(0, 62), 0);
        due(8, "a goer of 0", x.become(0, 0), 6);
        due(8, "a cat", x.become(0, 39), 0);
        due(8, "km 70", x.become(0, 70), BEYOND);
        due(8, "km -1", x.become(0, -1), BEYOND);
        due(8, "goer 1", x.become(1, 0), BEYOND);
        due(8, "kind", x.ofGoer(0, 0), 3);
        due(8, "m", x.ofGoer(0, 1), 9);
        due(8, "bearing stays", x.ofGoer(0, 2), 3);
        due(8, "distance stays", x.ofGoer(0, 3), 4);
        int[] above = {0, 0, 0, 0, 1, 2, 3};
        for (int kind = 0; kind <= 6; kind++) {
            x.become(0, kind * 10 + 5);
            for (int asKind = 0; asKind <= 6; asKind++) {
                boolean is = asKind == kind || asKind == above[kind] || asKind == 0;
                due(9, kind + " as " + asKind, x.as(0, asKind), is ? 5 : KIND);
            }
        }
        due(9, "kind 7", x.as(0, 7), BEYOND);
        due(9, "kind -1", x.as(0, -1), BEYOND);
        due(9, "goer 1", x.as(1, 0), BEYOND);
    }

    private static void feedTape() {
        ReadingLight x = new ReadingLight();
        due(10, "n 0", x.feed(0, 0), BEYOND);
        due(10, "n 9", x.feed(0, 9), BEYOND);
        for (int i = 1; i <= 6; i++) {
            due(10, "eight", x.feed('+', 8), 8 * i);
        }
        due(10, "too many", x.feed(0, 3), FULL);
        due(10, "beyond first", x.feed(0, 9), BEYOND);
        due(10, "just full", x.feed(0, 2), 50);
        due(10, "none more", x.feed(0, 1), FULL);
        due(40, "bytes", x.count(9), 50);
        due(11, "use 2", x.text(2), BEYOND);
        due(11, "use -1", x.text(-1), BEYOND);
        due(11, "the tape stays", x.count(9), 50);
        due(11, "a plus ahead", x.text(0), -10);
        due(11, "the tape is empty", x.count(9), 0);
        due(10, "lowest first", x.feed('4' | '2' << 8 | (long) 'x' << 16, 2), 2);
        due(11, "42", x.text(1), 1);
        due(11, "the tape is empty", x.count(9), 0);
        due(12, "42", x.law(1, 0, 0, 0), 42);
    }

    private static void texts() {
        due(11, "names w s i", worth("w*10+s*6+i"), 90);
        due(11, "products first", worth("1+2*3"), 7);
        due(11, "from the left", worth("20-5-3"), 12);
        due(11, "from the left", worth("90/9/2"), 5);
        due(11, "brackets", worth("20-(5-3)"), 18);
        due(11, "cut", worth("(0-7)/2+50"), 47);
        due(11, "rest", worth("(0-7)%4+50"), 47);
        due(11, "by 0", worth("7/0+7%0+1"), 1);
        due(11, "not", worth("!0+!1+!5*9"), 1);
        due(11, "not binds closest", worth("!0+5"), 6);
        due(11, "not not", worth("!!9"), 1);
        due(11, "or", worth("5|0"), 1);
        due(11, "or none", worth("0|0|0"), 0);
        due(11, "and", worth("5&9"), 1);
        due(11, "and none", worth("5&0"), 0);
        due(11, "and of ones", worth("1&1"), 1);
        due(11, "or in brackets", worth("(0|7)*5"), 5);
        due(11, "not more", worth("4>4"), 0);
        due(11, "and before or", worth("1|0&0"), 1);
        due(11, "less", worth("3<4"), 1);
        due(11, "not less", worth("4<4"), 0);
        due(11, "same", worth("2+2=4"), 1);
        due(11, "more", worth("4>3"), 1);
        due(11, "a lone one keeps its worth", worth("(17)"), 17);
        due(11, "held above", worth("9999"), 99);
        due(11, "held below", worth("0-1"), 0);
        due(11, "wraps to 1410065408 % 100", worth("9999*9999*9999*9999%100*0+0017"), 17);
        due(11, "least by -1 goes round", worth("(0-(2048*1024*1024))/(0-1)<0"), 1);
        due(11, "five open", worth("!(!(!7))"), 0);
        due(11, "six brackets in turn", worth("(1)+(1)+(1)+(1)+(1)+(1)"), 6);
        ReadingLight x = new ReadingLight();
        due(12, "without a text 0", x.law(0, 19, 0, 0), 1);
        due(12, "without a text 0", x.law(0, 20, 0, 0), 0);
        due(12, "without a text 1", x.law(1, 1, 2, 3), 9);
        due(11, "names d m s", text(x, 0, "d*m-s"), 1);
        due(12, "held within 1", x.law(0, 5, 5, 1), 1);
        due(12, "held within 0", x.law(0, 1, 1, 2), 0);
        due(11, "in place of one ahead", text(x, 0, "m"), 1);
        due(12, "the later one", x.law(0, 0, 1, 9), 1);
        due(11, "a fault", text(x, 0, "d+"), -12);
        due(12, "the one ahead stays", x.law(0, 0, 1, 9), 1);
        due(12, "the other is its own", x.law(1, 0, 0, 0), 9);
    }

    private static void faults() {
        due(11, "nothing", worth(""), -10);
        due(11, "five digits", worth("12345"), -14);
        due(11, "a name of the other use", worth("1+d"), -12);
        due(11, "two comparisons", worth("1<2<3"), -13);
        due(11, "two comparisons in brackets", worth("(1<2=3)"), -14);
        due(11, "a comparison of and", worth("1&2<3&4=4"), 1);
        due(11, "a blank", worth("1 +2"), -11);
        due(11, "not closed", worth("(1+2"), -14);
        due(11, "closed too often", worth("(1))"), -13);
        due(11, "brackets of nothing", worth("()"), -11);
        due(11, "two names", worth("ws"), -11);
        due(11, "a digit behind a name", worth("w1"), -11);
        due(11, "not behind a number", worth("1!"), -11);
        due(11, "a minus ahead", worth("-1"), -10);
        due(11, "six open", worth("!!!!!!1"), -15);
        due(11, "six open", worth("((!((!1"), -15);
        due(11, "five open, too early", worth("((((("), -15);
        due(11, "five not, then a bracket", worth("!!!!!(1)"), -15);
        due(11, "a byte above 127", worth("1" + (char) 255), -11);
        due(11, "fifty, too early", worth("1+1+1+1+1+1+1+1+1+1+1+1+1+1+1+1+1+1+1+1+1+1+1+1+1+"), -60);
        due(11, "fifty", worth("10+1+1+1+1+1+1+1+1+1+1+1+1+1+1+1+1+1+1+1+1+1+1+1+1"), 34);
        ReadingLight x = new ReadingLight();
        x.feed('d', 1);
        due(11, "names by use", x.text(1), -10);
        x.feed('i', 1);
        due(11, "names by use", x.text(0), -10);
        due(41, "a fault is no ERROR", x.told(1), 0);
    }

    private static void law() {
        ReadingLight x = new ReadingLight();
        due(12, "use 2", x.law(2, 0, 0, 0), BEYOND);
        due(12, "use -1", x.law(-1, 0, 0, 0), BEYOND);
        due(12, "any number", x.law(0, MIN, MAX, MIN), 1);
        text(x, 1, "w/s");
        due(12, "the least by -1", x.law(1, MIN, -1, 0), 0);
        text(x, 1, "w%s");
        due(12, "the rest of the least by -1", x.law(1, MIN, -1, 0), 0);
        text(x, 1, "w*s*i");
        due(12, "goes round", x.law(1, 65536, 65536, 1), 0);
    }

    private static void steps() {
        ReadingLight x = new ReadingLight();
        due(13, "0", x.steps(0), BEYOND);
        due(13, "61", x.steps(61), BEYOND);
        due(13, "-1", x.steps(-1), BEYOND);
        for (int i = 0; i < 166; i++) {
            x.steps(60);
        }
        due(13, "9960", x.count(1), 9960);
        due(13, "10000", x.steps(40), STATE);
        due(14, "10000", x.loose(40), STATE);
        due(13, "beyond first", x.steps(61), BEYOND);
        due(14, "beyond first", x.loose(41), BEYOND);
        x.image();
        due(14, "9999", x.loose(39), 0);
        due(14, "9999", x.count(1), 9999);
        due(37, "9960", x.restore(), 9960);
        due(13, "9999", x.steps(39), 0);
        due(13, "one more", x.steps(1), STATE);
        due(14, "one more", x.loose(1), STATE);
        due(3, "thought goes on", x.reads(9), 2);

        // A goer comes by 1, a ship where it is lit, a suitor where not, a thief is driven off.
        ReadingLight y = withGoers(0, 9, 3, 10, 0, 3, 20, 0, 3, 40, 0, 3, 50, 0, 3, 60, 9, 3);
        y.set(2, 0);
        y.goer(50, 0, 99);
        due(13, "three steps", y.steps(3), 1 | 2 | 8);
        due(13, "the suitor waits", y.ofGoer(2, 3), 3);
        due(13, "the fleet is held", y.ofGoer(3, 3), 0);
        due(13, "the thief is off", y.ofGoer(4, 3), 6);
        due(13, "a bull of 0 stays", y.ofGoer(5, 3), 3);
        due(13, "held at 99, where it is dark", y.ofGoer(6, 3), 96);
        due(13, "words by the chair", y.count(7), 27);
        due(13, "step", y.count(1), 3);

        // A cat goes round with the light; a bull by two; one who is IN stays.
        ReadingLight z = withGoers(30, 0, 5, 62, 15, 50, 31, 0, 0);
        z.set(0, 15);
        z.set(1, 2);
        due(13, "a cat", z.steps(1), 4);
        due(13, "a cat goes", z.ofGoer(0, 2), 1);
        due(13, "a cat comes not", z.ofGoer(0, 3), 5);
        due(13, "a bull beyond reach stays", z.ofGoer(1, 2), 15);
        due(13, "but comes", z.ofGoer(1, 3), 48);
        due(13, "one IN stays", z.ofGoer(2, 2), 0);
        due(13, "the light goes round", z.count(2), 0);
        z.change(1, 1, 10);
        z.change(1, 0, 1);
        z.steps(1);
        due(13, "a bull goes two", z.ofGoer(1, 2), 3);

        // The page is read before who comes in counts, and by the step as it is.
        ReadingLight p = withGoers(0, 9, 1);
        text(p, 1, "i*10+s");
        p.set(2, 0);
        p.steps(1);
        due(13, "none IN yet", p.count(7), 0);
        p.steps(1);
        due(13, "one IN", p.count(7), 11);
        p.set(3, 1);
        p.steps(1);
        due(13, "a chair in the shade", p.count(7), 11);
        text(p, 1, "w");
        p.set(3, 0);
        p.words(99960);
        p.steps(1);
        due(13, "words are held", p.count(7), 99999);
        p.set(0, 15);
        p.words(5);
        p.steps(1);
        due(13, "the light is off the chair", p.count(7), 5);

        p.set(2, 0);
        p.set(0, 0);
        p.words(1234);
        p.steps(1);
        due(13, "w is the rest by 100", p.count(7), 1268);
        text(p, 1, "s");
        p.words(0);
        p.steps(11);
        due(13, "s is the rest by 16", p.count(7), 6 + 7 + 8 + 9 + 10 + 11 + 12 + 13 + 14 + 15 + 0);

        ReadingLight q = withGoers(10, 0, 9);
        text(q, 0, "s=1");
        q.set(2, 0);
        q.steps(1);
        due(13, "not at step 0", q.ofGoer(0, 3), 9);
        q.steps(1);
        due(13, "but at 1", q.ofGoer(0, 3), 8);
        q.steps(16);
        due(13, "and at 17", q.ofGoer(0, 3), 7);
    }

    private static void loose() {
        ReadingLight x = withGoers(0, 5, 2);
        due(14, "0", x.loose(0), BEYOND);
        due(14, "41", x.loose(41), BEYOND);
        due(28, "z", x.seed(77), 1);
        int z = 77;
        int stands = 0;
        for (int i = 1; i <= 20; i++) {
            z = z * 1103515245 + 12345;
            int turn = (z >>> 8) % 16;
            stands = (stands + turn) % 16;
            due(14, "who is IN", x.loose(1), i >= 2 ? 1 : 0);
            due(14, "turn stays", x.count(4), turn);
            due(14, "stands", x.count(2), stands);
            due(40, "z", x.count(12), z);
        }
        due(14, "forty", x.loose(40), 1);
        due(14, "step", x.count(1), 60);
        ReadingLight y = new ReadingLight();
        due(28, "any number", y.seed(BEYOND), 1);
        due(28, "any number", y.seed(MIN), BEYOND);
        due(41, "which is no ERROR", y.told(1), 0);
        due(40, "z", y.count(12), MIN);
    }

    private static void then() {
        ReadingLight x = withGoers(30, 0, 5, 0, 2, 9);
        x.set(2, 1);
        due(15, "a cat follows", x.then(60, 0, 0), 12);
        due(15, "distance", x.then(4, 1, 1), 5);
        due(15, "held", x.then(60, 1, 1), 0);
        due(15, "lit then", x.then(2, 1, 2), 1);
        due(15, "dark then", x.then(3, 1, 2), 0);
        due(15, "behind none", x.then(0, 1, 1), 9);
        due(15, "n 61", x.then(61, 0, 0), BEYOND);
        due(15, "n -1", x.then(-1, 0, 0), BEYOND);
        due(15, "goer 2", x.then(0, 2, 0), BEYOND);
        due(15, "what 3", x.then(0, 0, 3), BEYOND);
        due(15, "what -1", x.then(0, 0, -1), BEYOND);
        due(15, "only thought", x.count(1), 0);
        due(15, "only thought", x.ofGoer(1, 3), 9);
    }

    private static void lit() {
        ReadingLight x = withGoers(0, 0, 19, 0, 0, 20, 0, 1, 5, 0, 15, 5, 0, 0, 0);
        due(16, "one, and one who is IN", x.lit(), 1 | 16);
        x.set(1, 2);
        due(16, "wider", x.lit(), 1 | 4 | 16);
        x.set(3, 1);
        due(16, "shaded", x.lit(), 4);
        text(x, 0, "d>4");
        x.set(3, 0);
        due(16, "by a text", x.lit(), 1 | 2 | 4);
    }

    private static void first() {
        ReadingLight x = withGoers(30, 0, 5);
        due(17, "never", x.first(0), NONE);
        due(17, "never", x.first(1), NONE);
        x.become(0, 0);
        due(17, "the first of all", x.first(1), 0);
        x.become(0, 30);
        due(17, "what 2", x.first(2), BEYOND);
        due(17, "what -1", x.first(-1), BEYOND);
        x.goer(0, 0, 0);
        due(17, "one is IN now", x.first(0), NONE);
        x.goer(0, 0, 60);
        due(17, "at the last", x.first(0), 60);
        x.goer(0, 9, 59);
        x.goer(0, 8, 59);
        due(17, "the first", x.first(0), 59);
        due(17, "the least of two", x.first(1), 3);
        x.change(2, 1, 61);
        x.change(3, 1, 61);
        x.change(4, 1, 61);
        due(17, "not by 60", x.first(1), NONE);
    }

    private static void reads() {
        ReadingLight x = new ReadingLight();
        due(18, "0", x.reads(0), BEYOND);
        due(18, "1000", x.reads(1000), BEYOND);
        due(18, "one", x.reads(1), 1);
        due(18, "nine", x.reads(9), 1);
        due(18, "ten", x.reads(10), 17);
        due(18, "36", x.reads(36), 49);
        due(18, "37", x.reads(37), NONE);
        due(18, "999", x.reads(999), NONE);
        x.set(4, 11);
        due(18, "the last of 60", x.reads(36), 60);
        x.set(4, 12);
        due(18, "one too late", x.reads(36), NONE);
        x.set(4, 0);
        x.set(2, 0);
        text(x, 1, "99");
        due(18, "999", x.reads(999), 11);
        x.words(99998);
        due(18, "one to go", x.reads(1), 1);
        due(18, "held", x.reads(2), NONE);
        due(18, "only thought", x.count(7), 99998);
    }

    private static void pace() {
        ReadingLight x = new ReadingLight();
        x.set(4, 6);
        due(19, "turn 1 comes to it in 6", x.pace(7, 0), 1);
        due(19, "nine", x.pace(7, 1), 9);
        due(19, "turn 6 in 1", x.pace(2, 0), 6);
        due(19, "none by then", x.pace(1, 0), 0);
        due(19, "none by then", x.pace(1, 1), 0);
        due(19, "none", x.pace(0, 0), 0);
        x.words(500);
        due(19, "more than now", x.pace(2, 1), 9);
        due(19, "n 61", x.pace(61, 0), BEYOND);
        due(19, "n -1", x.pace(-1, 0), BEYOND);
        due(19, "what 2", x.pace(0, 2), BEYOND);
        due(19, "what -1", x.pace(0, -1), BEYOND);
        due(19, "turn stays", x.count(4), 1);
        x.words(99999);
        due(19, "held", x.pace(60, 1), 0);
        due(19, "held", x.pace(60, 0), 0);
    }

    private static void lead() {
        ReadingLight x = withGoers(10, 5, 1, 0, 0, 3, 30, 0, 9);
        due(20, "the ship in two", x.lead(1, 2), 5);
        due(20, "the ship in six", x.lead(1, 6), 1);
        due(20, "none of all", x.lead(0, 0), 0);
        due(20, "the goer in three", x.lead(2, 3), 0);
        due(20, "the goer in two", x.lead(2, 2), NONE);
        due(20, "both", x.lead(3, 4), 5);
        due(20, "a cat never", x.lead(4, 60), NONE);
        due(20, "none such", x.lead(8, 1), BEYOND);
        due(20, "below 0", x.lead(-1, 1), BEYOND);
        due(20, "n 61", x.lead(1, 61), BEYOND);
        due(20, "n -1", x.lead(1, -1), BEYOND);
        due(20, "turn stays", x.count(4), 1);
        for (int g = 3; g < 8; g++) {
            x.goer(0, 0, 0);
        }
        due(20, "all eight, but the cat", x.lead(251, 4), 5);
        x.change(2, 1, 0);
        due(20, "all eight", x.lead(255, 4), 5);
        due(20, "none such", x.lead(256, 1), BEYOND);
    }

    private static void shade() {
        ReadingLight x = withGoers(0, 3, 9, 31, 0, 5, 62, 0, 19, 0, 1, 25);
        due(21, "its bearing", x.shade(0, 4), 8);
        due(21, "not yet there", x.shade(0, 3), 0);
        due(21, "a cat, at first", x.shade(1, 1), 1);
        due(21, "a cat that is never lit stays", x.shade(1, 20), 1);
        due(21, "n 0", x.shade(0, 0), 0);
        due(21, "n 21", x.shade(0, 21), BEYOND);
        due(21, "n -1", x.shade(0, -1), BEYOND);
        due(21, "goer 4", x.shade(4, 0), BEYOND);
        due(21, "none needed, too far", x.shade(3, 5), 0);
        x.set(3, 8);
        due(21, "shaded already", x.shade(0, 20), 0);
        due(21, "shades stay", x.count(5), 8);

        due(21, "a bull", x.shade(2, 20), 1);
        ReadingLight y = withGoers(0, 15, 5);
        y.set(0, 15);
        due(21, "the highest", y.shade(0, 1), 32768);
    }

    private static void stood() {
        ReadingLight x = withSheet(withGoers(10, 5, 9), 0, 8, 0, 0, 1);
        due(22, "at 3", x.stood(0, 0, 0), 8);
        due(22, "one", x.stood(0, 0, 1), 1);
        due(22, "what 2", x.stood(0, 0, 2), BEYOND);
        due(22, "what -1", x.stood(0, 0, -1), BEYOND);
        due(22, "goer 1", x.stood(0, 1, 0), BEYOND);
        due(22, "sheet 4", x.stood(4, 0, 0), BEYOND);
        due(22, "sheet -1", x.stood(-1, 0, 0), BEYOND);
        due(22, "missing", x.stood(1, 0, 0), NONE);
        due(22, "missing, beyond first", x.stood(1, 1, 0), BEYOND);
        x.sheet(1, 32, 0);
        due(22, "nothing told", x.stood(1, 0, 0), 65535);
        due(22, "nothing told", x.stood(1, 0, 1), 16);
        x.put(0, 1, 256);
        due(22, "lowest bits", x.stood(0, 0, 0), 8);
        x.put(0, 2, 2);
        due(22, "2 is neither", x.stood(0, 0, 0), 0);
        withSheet(x, 2, 16, 0, 0);
        due(22, "not 5, not 4", x.stood(2, 0, 0), 65535 - 32 - 16);
        due(22, "not 5, not 4", x.stood(2, 0, 1), 14);
        due(22, "the light stays", x.count(2), 0);
    }

    private static void dark() {
        ReadingLight x = withGoers(0, 0, 9, 0, 3, 9, 0, 3, 30, 30, 2, 20);
        due(23, "none gone", x.dark(0), 15);
        due(23, "one", x.dark(1), 14);
        due(23, "up to its bearing", x.dark(3), 14);
        due(23, "at it", x.dark(4), 12);
        due(23, "the far one comes near", x.dark(20), 8);
        due(23, "60", x.dark(60), 8);
        due(23, "61", x.dark(61), BEYOND);
        due(23, "-1", x.dark(-1), BEYOND);
        due(23, "only thought", x.count(1), 0);
    }

    private static void longest() {
        ReadingLight x = withGoers(0, 3, 9, 30, 4, 50, 20, 0, 0, 0, 0, 9);
        due(24, "15 between", x.longest(0), 15);
        due(24, "never lit", x.longest(1), 60);
        due(24, "one IN is lit, too", x.longest(2), 15);
        x.set(2, 0);
        due(24, "always lit", x.longest(3), 0);
        due(24, "never", x.longest(0), 60);
        due(24, "goer 4", x.longest(4), BEYOND);
        due(24, "goer -1", x.longest(-1), BEYOND);
        ReadingLight y = withGoers(30, 11, 9);
        y.set(0, 1);
        y.set(2, 2);
        due(24, "lit once, behind five, then never", y.longest(0), 54);
        y.set(0, 11);
        y.set(2, 1);
        y.change(0, 0, 10);
        text(y, 0, "s=15");
        due(24, "lit once, behind fifteen, then never", y.longest(0), 44);
        ReadingLight z = withGoers(10, 12, 30);
        text(z, 0, "s<2");
        z.set(2, 0);
        z.set(0, 12);
        due(24, "by steps", z.longest(0), 14);
    }

    private static void from() {
        ReadingLight x = withGoers(10, 9, 9, 0, 3, 4, 40, 8, 7, 50, 0, 50);
        due(25, "the ship under the light", x.from(0, 1, 0), 0);
        due(25, "the ship under the light", x.from(0, 1, 1), 8);
        due(25, "n 0", x.from(0, 0, 1), 9);
        due(25, "n 0", x.from(0, 0, 0), 0);
        x.set(0, 6);
        due(25, "where the light comes", x.from(0, 2, 0), 6);
        due(25, "a goer from any", x.from(1, 2, 0), 0);
        due(25, "a goer from any", x.from(1, 2, 1), 2);
        due(25, "a fleet", x.from(2, 17, 0), 6);
        due(25, "a fleet twice", x.from(2, 17, 1), 3);
        due(25, "goer 4", x.from(4, 0, 0), BEYOND);
        due(25, "n 61", x.from(0, 61, 0), BEYOND);
        due(25, "n -1", x.from(0, -1, 0), BEYOND);
        due(25, "what 2", x.from(0, 0, 2), BEYOND);
        due(25, "what -1", x.from(0, 0, -1), BEYOND);
        due(25, "it stays", x.ofGoer(0, 2), 9);
        x.change(0, 1, 99);
        due(25, "the farthest", x.from(0, 60, 1), 99);
        due(25, "the farthest", x.from(0, 60, 0), 0);
    }

    private static void cost() {
        ReadingLight x = new ReadingLight();
        due(26, "the chair", x.cost(0, 17), 18);
        due(26, "another", x.cost(1, 17), 0);
        due(26, "n 0", x.cost(0, 0), 0);
        due(26, "bearing 16", x.cost(16, 0), BEYOND);
        due(26, "bearing -1", x.cost(-1, 0), BEYOND);
        due(26, "n 61", x.cost(0, 61), BEYOND);
        due(26, "n -1", x.cost(0, -1), BEYOND);
        x.words(99990);
        due(26, "held", x.cost(0, 60), 9);
        x.set(3, 1);
        due(26, "shaded already", x.cost(0, 60), 0);
        due(26, "shades stay", x.count(5), 1);

        // A suitor who is not lit is in sooner, and more is read for one who is IN.
        ReadingLight y = withGoers(20, 1, 1);
        text(y, 1, "i");
        y.set(1, 2);
        y.set(2, 0);
        due(26, "a shade may bring more", y.cost(1, 3), -2);
    }

    private static void odds() {
        ReadingLight x = withGoers(10, 5, 1, 0, 0, 9, 30, 0, 9, 20, 3, 1);
        due(27, "above", x.odds(0, 4, 0), 1);
        due(27, "below", x.odds(0, 4, 1), 4);
        due(27, "3 of 16", x.odds(0, 3, 0), 3);
        due(27, "3 of 16", x.odds(0, 3, 1), 16);
        due(27, "sure", x.odds(1, 9, 0), 1);
        due(27, "sure", x.odds(1, 9, 1), 1);
        due(27, "never", x.odds(2, 60, 0), 0);
        due(27, "never", x.odds(2, 60, 1), 1);
        due(27, "15 of 16", x.odds(3, 1, 0), 15);
        due(27, "15 of 16", x.odds(3, 1, 1), 16);
        due(27, "6 of 16", x.odds(0, 6, 0), 3);
        due(27, "6 of 16", x.odds(0, 6, 1), 8);
        due(27, "goer 4", x.odds(4, 0, 0), BEYOND);
        due(27, "n 61", x.odds(0, 61, 0), BEYOND);
        due(27, "n -1", x.odds(0, -1, 0), BEYOND);
        due(27, "part 2", x.odds(0, 0, 2), BEYOND);
        due(27, "part -1", x.odds(0, 0, -1), BEYOND);
    }

    private static void voiceIs(ReadingLight x, int km, int act, int in, int want, int... bodies) {
        x.become(3, km);
        String what = "km " + km + ", act " + act;
        due(29, what, x.voice(3, act, in), want);
        due(40, "bodies of " + what, x.count(11), bodies.length);
        for (int i = 0; i < bodies.length; i++) {
            due(30, "body " + i + " of " + what, x.trace(i), bodies[i]);
        }
        due(30, "no more of " + what, x.trace(bodies.length), NONE);
    }

    private static void voices() {
        ReadingLight x = withGoers(0, 0, 0, 0, 0, 0, 0, 0, 0, 0, 0, 0);
        due(30, "none yet", x.trace(0), NONE);
        voiceIs(x, 5, 0, 7, 10, 10);
        voiceIs(x, 5, 1, 7, 20, 11, 10);
        voiceIs(x, 5, 2, 7, 2, 12);
        voiceIs(x, 5, 3, 7, 20 ^ 2, 13, 11, 10, 12);
        voiceIs(x, 15, 0, 7, 30, 20, 10);
        voiceIs(x, 15, 3, 7, 60 ^ 2, 13, 11, 20, 10, 12);
        voiceIs(x, 25, 1, 7, 24, 30, 11, 10, 12);
        voiceIs(x, 35, 2, 7, -2, 40, 12);
        voiceIs(x, 45, 3, 7, (60 ^ 2) - 15, 50, 13, 11, 20, 10, 12, 20, 10);
        voiceIs(x, 55, 1, 7, 26, 60, 30, 11, 10, 12);
        voiceIs(x, 65, 2, 7, -2 ^ 3, 70, 40, 12);
        voiceIs(x, 65, 3, 7, 20 - (20 ^ -2 ^ 3), 71, 11, 10, 13, 11, 10, 70, 40, 12);
        due(29, "goer 4", x.voice(4, 0, 0), BEYOND);
        due(29, "goer -1", x.voice(-1, 0, 0), BEYOND);
        due(29, "act 4", x.voice(0, 4, 0), BEYOND);
        due(29, "act -1", x.voice(0, -1, 0), BEYOND);
        due(30, "the trace stays", x.count(11), 9);
        due(30, "trace -1", x.trace(-1), NONE);
        due(30, "trace far", x.trace(MAX), NONE);
        voiceIs(x, 10, 0, MAX, (MAX + 3) * 3, 20, 10);
        int beyond = x.told(1);
        due(29, "an answer like an ERROR", x.voice(0, 0, BEYOND), BEYOND);
        due(41, "is none", x.told(1), beyond);
    }

    private static void sheets() {
        ReadingLight x = new ReadingLight();
        due(31, "8", x.sheet(0, 8, 40), 1);
        due(31, "sheet 4", x.sheet(4, 8, 1), BEYOND);
        due(31, "sheet -1", x.sheet(-1, 8, 1), BEYOND);
        due(31, "9 bits", x.sheet(0, 9, 1), BEYOND);
        due(31, "9 bits, beyond first", x.sheet(0, 9, -1), BEYOND);
        due(31, "-8 bits", x.sheet(0, -8, 1), BEYOND);
        due(31, "41", x.sheet(0, 8, 41), BEYOND);
        due(31, "-1", x.sheet(0, 8, -1), STATE);
        due(31, "least", x.sheet(0, 8, MIN), STATE);
        due(32, "the last", x.put(0, 39, 1), 1);
        due(32, "one more", x.put(0, 40, 1), BEYOND);
        due(32, "-1", x.put(0, -1, 1), BEYOND);
        due(32, "sheet 4", x.put(4, 0, 1), BEYOND);
        due(32, "sheet -1", x.put(-1, 0, 1), BEYOND);
        due(32, "missing", x.put(1, 0, 1), NONE);
        due(32, "missing ahead of no such number", x.put(1, -1, 1), NONE);
        due(31, "missing again, n doesn't matter", x.sheet(0, 0, -5), 1);
        due(31, "missing", x.put(0, 0, 1), NONE);
        due(31, "missing again, n doesn't matter", x.sheet(0, 0, 41), 1);
        due(31, "none", x.sheet(0, 16, 0), 1);
        due(31, "no number", x.put(0, 0, 1), BEYOND);

        ReadingLight y = withGoers(0, 5, 9);
        withSheet(y, 0, 8, 256 + 5);
        due(32, "8 lowest", y.judge(0), -1);
        withSheet(y, 0, 16, 256 + 5);
        due(32, "16 lowest", y.judge(0), 0);
        withSheet(y, 0, 16, 65536 + 5);
        due(32, "16 lowest", y.judge(0), -1);
        withSheet(y, 0, 32, 65536 + 5);
        due(32, "all 32", y.judge(0), 0);
        withSheet(y, 0, 32, 5);
        y.sheet(0, 32, 1);
        y.change(0, 0, 0);
        due(31, "all 0", y.judge(0), -1);
    }

    private static void moves() {
        ReadingLight x = withGoers(0, 1, 9, 0, 1, 9, 0, 2, 9, 0, 3, 9);
        withSheet(x, 0, 8, 1, 2, 3, 4);
        due(33, "onto itself", x.move(0, 0, 0, 1, 3), 3);
        due(33, "as they were", x.judge(0), -1);
        withSheet(x, 1, 8, 9, 1, 1, 2, 3, 9);
        withSheet(x, 0, 8, 0, 0, 0, 0);
        due(33, "to another", x.move(1, 1, 0, 0, 4), 4);
        due(33, "as they are", x.judge(0), -1);
        due(33, "none", x.move(1, 6, 0, 4, 0), 0);
        due(33, "too many", x.move(1, 0, 0, 0, 5), BEYOND);
        due(33, "too many", x.move(0, 1, 1, 0, 4), BEYOND);
        due(33, "i beyond", x.move(1, 7, 0, 0, 0), BEYOND);
        due(33, "j beyond", x.move(1, 0, 0, 5, 0), BEYOND);
        due(33, "n -1", x.move(1, 1, 0, 1, -1), BEYOND);
        due(33, "i -1", x.move(1, -1, 0, 0, 1), BEYOND);
        due(33, "j -1", x.move(1, 0, 0, -1, 1), BEYOND);
        due(33, "far", x.move(1, MAX, 0, MAX, MAX), BEYOND);
        due(33, "far", x.move(1, 1, 0, 1, MAX), BEYOND);
        due(33, "far", x.move(1, MIN, 0, 1, MIN), BEYOND);
        due(33, "sheet 4", x.move(4, 0, 0, 0, 0), BEYOND);
        due(33, "sheet -1", x.move(0, 0, -1, 0, 0), BEYOND);
        due(33, "sheet 4, one missing", x.move(2, 0, 4, 0, 0), BEYOND);
        due(33, "missing", x.move(2, -1, 0, 0, 0), NONE);
        due(33, "missing", x.move(0, -1, 2, 0, 0), NONE);
        x.sheet(2, 16, 4);
        due(33, "unlike", x.move(0, -1, 2, 0, 0), KIND);
        due(33, "all stays", x.judge(0), -1);
    }

    private static void distancesAndJudge() {
        ReadingLight x = withGoers(0, 1, 9, 0, 2, 9, 0, 3, 9);
        withSheet(x, 0, 16, 0, 99, 100);
        due(34, "two", x.distances(0), 2);
        due(34, "0", x.ofGoer(0, 3), 0);
        due(34, "99", x.ofGoer(1, 3), 99);
        due(34, "stays", x.ofGoer(2, 3), 9);
        withSheet(x, 0, 32, 5, -1, 7);
        due(34, "one", x.distances(0), 1);
        due(34, "5", x.ofGoer(0, 3), 5);
        withSheet(x, 0, 8, 1, 2, 3, 4);
        due(34, "no such goer", x.distances(0), 3);
        withSheet(x, 0, 8, 1, 2);
        due(34, "no more numbers", x.distances(0), 2);
        due(34, "sheet 4", x.distances(4), BEYOND);
        due(34, "sheet -1", x.distances(-1), BEYOND);
        due(34, "missing", x.distances(1), NONE);

        due(35, "one lacks", x.judge(0), 2);
        withSheet(x, 0, 8, 1, 5);
        due(35, "the second", x.judge(0), 1);
        withSheet(x, 0, 8, 1, 2, 3);
        due(35, "all", x.judge(0), -1);
        withSheet(x, 0, 8, 1, 2, 3, 0);
        due(35, "one too many", x.judge(0), 3);
        due(35, "sheet 4", x.judge(4), BEYOND);
        due(35, "sheet -1", x.judge(-1), BEYOND);
        due(35, "missing", x.judge(1), NONE);
        ReadingLight y = new ReadingLight();
        y.sheet(3, 32, 0);
        due(35, "none of none", y.judge(3), -1);
        y.sheet(3, 32, 1);
        due(35, "one of none", y.judge(3), 0);
    }

    private static void images() {
        ReadingLight x = withGoers(14, 1, 9);
        due(37, "none", x.restore(), NONE);
        int[] settings = {3, 4, 5, 64, 7};
        for (int what = 0; what <= 4; what++) {
            x.set(what, settings[what]);
        }
        x.words(55);
        x.seed(99);
        x.steps(2);
        text(x, 0, "m");
        text(x, 1, "3");
        x.feed('5', 1);
        x.tell(8);
        x.sheet(0, 8, 3);
        x.voice(0, 0, 0);
        int[] before = new int[13];
        for (int what = 0; what <= 12; what++) {
            before[what] = x.count(what);
        }
        due(36, "once", x.image(), 1);
        for (int what = 0; what <= 4; what++) {
            x.set(what, 1);
        }
        x.become(0, 29);
        x.change(0, 0, 9);
        x.change(0, 1, 0);
        x.goer(1, 2, 3);
        x.words(1);
        x.seed(1);
        x.steps(9);
        text(x, 0, "0");
        x.feed('0', 1);
        text(x, 1, "4");
        x.feed('0', 1);
        x.feed('0', 1);
        x.check();
        x.sheet(0, 0, 0);
        x.voice(0, 1, 0);
        int none = x.told(2);
        x.told(0);
        int beyond = x.told(1);
        due(37, "step", x.restore(), 2);
        for (int what = 0; what <= 12; what++) {
            due(37, "count " + what, x.count(what), what == 11 ? 4 : before[what]);
        }
        due(37, "kind", x.ofGoer(0, 0), 1);
        due(37, "m", x.ofGoer(0, 1), 4);
        due(37, "bearing", x.ofGoer(0, 2), 1);
        due(37, "distance", x.ofGoer(0, 3), 9);
        due(37, "law 0", x.law(0, 0, 1, 0), 1);
        due(37, "law 1", x.law(1, 0, 0, 0), 3);
        due(37, "sheets are not kept", x.judge(0), NONE);
        due(37, "nor what is told", x.told(1), beyond);
        due(37, "nor what is told", x.told(2), none + 1);
        due(37, "the tape", x.text(1), 1);
        due(37, "the tape", x.law(1, 0, 0, 0), 5);
        x.steps(1);
        due(37, "the image stays", x.restore(), 2);
        due(37, "and what waits", x.check(), 1);
        x.steps(1);
        due(36, "twice", x.image(), 2);
        x.steps(1);
        due(37, "in place of one ahead", x.restore(), 3);
        due(36, "how often is not kept", x.image(), 3);
    }

    private static void tellAndCheck() {
        ReadingLight x = new ReadingLight();
        due(39, "none wait", x.check(), 0);
        for (int i = 1; i <= 20; i++) {
            due(38, "waits", x.tell(i <= 16 ? 9 : 18), i);
        }
        due(38, "no more", x.tell(0), FULL);
        due(40, "wait", x.count(10), 20);
        due(39, "all are", x.check(), 0);
        due(39, "none wait then", x.count(10), 0);
        due(39, "only thought", x.count(7), 0);
        due(39, "only thought", x.count(1), 0);
        x.tell(9);
        x.tell(9);
        x.tell(MIN);
        x.tell(9);
        due(39, "the third isn't", x.check(), 3);
        due(39, "none wait then", x.count(10), 0);
        x.words(5);
        x.tell(5);
        due(39, "the first isn't", x.check(), 1);
        x.tell(14);
        due(39, "it is", x.check(), 0);
    }

    private static void told() {
        ReadingLight x = withGoers(0, 0, 0);
        x.steps(0);
        x.restore();
        x.restore();
        x.sheet(0, 8, -1);
        x.sheet(0, 8, -1);
        x.sheet(0, 8, -1);
        x.as(0, 1);
        for (int i = 0; i < 22; i++) {
            x.tell(0);
        }
        due(41, "BEYOND", x.told(1), 1);
        due(41, "NONE", x.told(2), 2);
        due(41, "STATE", x.told(3), 3);
        due(41, "FULL", x.told(4), 2);
        due(41, "KIND", x.told(5), 1);
        due(41, "0", x.told(0), BEYOND);
        due(41, "6", x.told(6), BEYOND);
        due(41, "far", x.told(MIN), BEYOND);
        due(41, "counted, too", x.told(1), 4);
    }
}
