/**
 * The document's sentences that name a boundary, one after the other: the last values that are
 * allowed, what is empty, what is full, what goes round, what is held. What a refused call leaves
 * unchanged is in UnchangedTests.
 */
public final class EdgeTests {
    private static final int LOW = -1000000000;
    private static final int BEYOND = LOW - 1;
    private static final int NONE = LOW - 2;
    private static final int STATE = LOW - 3;
    private static final int FULL = LOW - 4;
    private static final int KIND = LOW - 5;
    private static final int MIN = Integer.MIN_VALUE;
    private static final int MAX = Integer.MAX_VALUE;

    private static String sentence = "";
    private static int wrong = 0;
    private static int asked = 0;

    /** The sentence of the document that the next answers belong to. */
    private static void of(String words) {
        sentence = words;
    }

    private static void due(String what, long got, long want) {
        asked++;
        if (got != want) {
            wrong++;
            System.out.println("\"" + sentence + "\", " + what + ": answered " + got + ", due is " + want);
        }
    }

    public static void main(String[] args) {
        errors();
        theLightGoesRound();
        shades();
        turns();
        chairAndWords();
        goers();
        distancesAreHeld();
        whoIsIn();
        comesAndRound();
        lit();
        aStep();
        tape();
        numbersAndNames();
        openAtOnce();
        faults();
        quotients();
        truths();
        binding();
        uses();
        stepsToTheLast();
        thoughtBeyondTheLast();
        behind();
        first();
        reads();
        pace();
        lead();
        shade();
        stood();
        darkAndLong();
        from();
        cost();
        odds();
        nights();
        voices();
        sheets();
        lowestBits();
        moves();
        distances();
        judge();
        images();
        waiting();
        told();
        System.out.println(asked - wrong + " answers as due, " + wrong + " not");
        if (wrong != 0) {
            System.exit(1);
        }
    }

    // ---- helpers

    private static ReadingLight with(int... kmBearingDistance) {
        ReadingLight x = new ReadingLight();
        for (int i = 0; i + 2 < kmBearingDistance.length; i += 3) {
            x.goer(kmBearingDistance[i], kmBearingDistance[i + 1], kmBearingDistance[i + 2]);
        }
        return x;
    }

    /** The light stands, is so wide, turns so. */
    private static ReadingLight light(ReadingLight x, int stands, int width, int turn) {
        x.set(0, stands);
        x.set(1, width);
        x.set(2, turn);
        return x;
    }

    private static int text(ReadingLight x, int use, String text) {
        for (int i = 0; i < text.length(); i++) {
            x.feed(text.charAt(i), 1);
        }
        return x.text(use);
    }

    /** What a text gives as PAGE with its names as 7, 3, 2; or what text() answered. */
    private static int worth(String text) {
        return worth(text, 7);
    }

    private static int worth(String text, int w) {
        ReadingLight x = new ReadingLight();
        int answer = text(x, 1, text);
        return answer == 1 ? x.law(1, w, 3, 2) : answer;
    }

    private static ReadingLight sheet(ReadingLight x, int sheet, int bits, int... numbers) {
        x.sheet(sheet, bits, numbers.length);
        for (int i = 0; i < numbers.length; i++) {
            x.put(sheet, i, numbers[i]);
        }
        return x;
    }

    /** An object at a late step, 0 ahead of it; 167 calls at most. */
    private static ReadingLight late(int step) {
        ReadingLight x = new ReadingLight();
        for (int at = 0; at < step; at += 60) {
            x.steps(Math.min(60, step - at));
        }
        return x;
    }

    // ---- ERRORS

    private static void errors() {
        of("LOW is -1000000000; LOW - 1 BEYOND, LOW - 2 NONE, LOW - 3 STATE, LOW - 4 FULL, LOW - 5 KIND");
        ReadingLight x = with(0, 0, 1);
        due("BEYOND", x.words(-1), -1000000001);
        due("NONE", x.restore(), -1000000002);
        due("STATE", x.sheet(0, 8, -1), -1000000003);
        for (int i = 0; i < 20; i++) {
            x.tell(i);
        }
        due("FULL", x.tell(0), -1000000004);
        due("KIND", x.as(0, 1), -1000000005);
        for (int k = 1; k <= 5; k++) {
            due("told(" + k + ")", x.told(k), 1);
        }
    }

    // ---- the light

    private static void theLightGoesRound() {
        of("it is on the BEARING at which it stands, and as many as WIDTH less 1 behind it (up, round)");
        for (int stands = 0; stands < 16; stands++) {
            ReadingLight x = new ReadingLight();
            x.set(0, stands);
            for (int width = 1; width <= 8; width++) {
                x.set(1, width);
                for (int b = 0; b < 16; b++) {
                    boolean on = (b + 16 - stands) % 16 < width;
                    due("stands " + stands + ", width " + width + ", on " + b, x.ofBearing(b, 0), on ? 1 : 0);
                }
            }
        }
        of("WIDTH (1 to 8; 1 at first)");
        ReadingLight x = new ReadingLight();
        due("1 at first", x.count(3), 1);
        due("8", x.set(1, 8), 1);
        due("9", x.set(1, 9), BEYOND);
        due("1", x.set(1, 1), 8);
        due("0", x.set(1, 0), BEYOND);
        due("stays", x.count(3), 1);
    }

    private static void shades() {
        of("SHADES (a set of BEARINGS; none at first)");
        ReadingLight x = new ReadingLight();
        due("none at first", x.count(5), 0);
        for (int b = 0; b < 16; b++) {
            x.set(0, b);
            due("on " + b, x.ofBearing(b, 0), 1);
            x.set(3, 1 << b);
            due("shaded " + b, x.ofBearing(b, 0), 0);
            x.set(3, 65535 - (1 << b));
            due("all but " + b, x.ofBearing(b, 0), 1);
            x.set(3, 0);
        }
        due("all", x.set(3, 65535), 0);
        x.set(1, 8);
        for (int b = 0; b < 16; b++) {
            due("all are shaded, " + b, x.ofBearing(b, 0), 0);
        }
        due("one more than all", x.set(3, 65536), BEYOND);
        due("-1", x.set(3, -1), BEYOND);
        due("stay", x.set(3, 0), 65535);
        x = light(new ReadingLight(), 14, 4, 0);
        x.set(3, 1 << 15);
        int[] on = {1, 1, 0, 0, 0, 0, 0, 0, 0, 0, 0, 0, 0, 0, 1, 0};
        for (int b = 0; b < 16; b++) {
            due("a shade in the midst, " + b, x.ofBearing(b, 0), on[b]);
        }
    }

    private static void turns() {
        of("the light stands as many BEARINGS as TURN further up, round");
        for (int turn = 0; turn <= 15; turn++) {
            ReadingLight x = light(new ReadingLight(), 15, 1, turn);
            x.steps(1);
            due("from 15 by " + turn, x.count(2), (15 + turn) % 16);
            x.steps(60);
            due("61 times from 15 by " + turn, x.count(2), (15 + 61 * turn) % 16);
            due("TURN stays", x.count(4), turn);
        }
        of("TURN (0 to 15; 1 at first)");
        ReadingLight x = new ReadingLight();
        due("15", x.set(2, 15), 1);
        due("16", x.set(2, 16), BEYOND);
        due("0", x.set(2, 0), 15);
        due("-1", x.set(2, -1), BEYOND);
        due("stays", x.count(4), 0);
    }

    private static void chairAndWords() {
        of("if the light is on THE CHAIR, WORDS are more");
        int[][] standsWidthChairShadesRead = {{0, 1, 0, 0, 9}, {1, 1, 0, 0, 0}, {15, 1, 0, 0, 0}, {15, 2, 0, 0, 9},
            {9, 8, 0, 0, 9}, {8, 8, 0, 0, 0}, {15, 1, 15, 0, 9}, {8, 8, 15, 0, 9}, {0, 8, 15, 0, 0}, {0, 1, 0, 1, 0},
            {15, 2, 0, 1, 0}, {15, 2, 0, 32768, 9}, {15, 1, 15, 32768, 0}};
        for (int[] c : standsWidthChairShadesRead) {
            ReadingLight x = light(new ReadingLight(), c[0], c[1], 0);
            x.set(4, c[2]);
            x.set(3, c[3]);
            x.steps(1);
            due(c[0] + ", " + c[1] + ", chair " + c[2] + ", shades " + c[3], x.count(7), c[4]);
        }
        of("THE CHAIR is at a BEARING (0 at first)");
        ReadingLight x = new ReadingLight();
        due("15", x.set(4, 15), 0);
        due("16", x.set(4, 16), BEYOND);
        due("-1", x.set(4, -1), BEYOND);
        due("0", x.set(4, 0), 15);

        of("WORDS (0 to 99999: read; 0 at first)");
        x = light(new ReadingLight(), 0, 1, 0);
        due("most", x.words(99999), 0);
        x.steps(60);
        due("held", x.count(7), 99999);
        due("one more than most", x.words(100000), BEYOND);
        due("9 less", x.words(99990), 99999);
        x.steps(1);
        due("just most", x.words(99989), 99999);
        x.steps(1);
        due("one less than most", x.words(99991), 99998);
        x.steps(1);
        due("held by one", x.words(0), 99999);
        due("-1", x.words(-1), BEYOND);
        due("least", x.count(7), 0);
    }

    // ---- goers

    private static void goers() {
        of("GOERS 0, 1, .. (at most 8)");
        ReadingLight x = new ReadingLight();
        int[] km = {0, 19, 20, 39, 40, 59, 60, 69};
        for (int g = 0; g < 8; g++) {
            due("count ahead", x.count(0), g);
            due("its number", x.goer(km[g], 15 - g, 0), g);
        }
        due("a ninth", x.goer(0, 0, 1), FULL);
        due("a ninth, and BEYOND first", x.goer(0, 16, 1), BEYOND);
        due("count", x.count(0), 8);
        due("all are IN", x.count(8), 255);
        due("none is lit in none", x.dark(0), 255);
        for (int g = 0; g < 8; g++) {
            due("kind", x.ofGoer(g, 0), km[g] / 10);
            due("m", x.ofGoer(g, 1), km[g] % 10);
            due("bearing", x.ofGoer(g, 2), 15 - g);
            due("distance", x.ofGoer(g, 3), 0);
            due("GOERS that are on it, as a set", x.ofBearing(15 - g, 1), 1 << g);
            x.change(g, 0, 15);
        }
        due("all are on 15", x.ofBearing(15, 1), 255);
        due("none is on 0", x.ofBearing(0, 1), 0);
        x.set(0, 15);
        due("all are lit", x.lit(), 255);
        due("goer 8", x.ofGoer(8, 0), BEYOND);
        due("goer -1", x.ofGoer(-1, 0), BEYOND);

        of("km: 10 times the KIND, and m");
        x = new ReadingLight();
        due("least", x.goer(0, 0, 0), 0);
        due("most", x.goer(69, 15, 99), 1);
        due("70", x.goer(70, 0, 0), BEYOND);
        due("-1", x.goer(-1, 0, 0), BEYOND);
        due("become most", x.become(0, 69), 0);
        due("become least", x.become(0, 0), 6);
        due("become 70", x.become(0, 70), BEYOND);
        due("become -1", x.become(0, -1), BEYOND);
        due("kind", x.ofGoer(0, 0), 0);
        due("m", x.ofGoer(0, 1), 0);

        of("A GOER as one of a KIND: m");
        due("0 as 0", x.as(0, 0), 0);
        due("a bull as a bull", x.as(1, 6), 9);
        due("a bull as a cat", x.as(1, 3), 9);
        due("a bull as a goer", x.as(1, 0), 9);
        due("a bull as a ship", x.as(1, 1), KIND);
        due("a goer as a bull", x.as(0, 6), KIND);
        due("kind 7, which none is", x.as(0, 7), BEYOND);
        due("kind -1, which none is", x.as(0, -1), BEYOND);
    }

    private static void distancesAreHeld() {
        of("by how much DISTANCE is less in a STEP; below 0: more; held within 0 to 99");
        // km, lit or not, distance now, and behind a step.
        int[][] cases = {{50, 1, 99, 99}, {50, 1, 98, 99}, {50, 1, 97, 98}, {50, 0, 99, 98}, {50, 0, 1, 0}, {50, 1, 1, 2},
            {40, 1, 1, 0}, {40, 1, 2, 0}, {40, 1, 3, 1}, {40, 0, 1, 1}, {62, 0, 1, 0}, {62, 1, 2, 0}, {62, 0, 3, 1},
            {61, 0, 1, 0}, {60, 0, 1, 1}, {69, 1, 99, 99}, {0, 0, 1, 0}, {0, 0, 99, 98}, {10, 1, 1, 0}, {10, 0, 1, 1},
            {20, 0, 1, 0}, {20, 1, 1, 1}, {30, 1, 1, 1}, {30, 0, 99, 99}};
        for (int[] c : cases) {
            ReadingLight x = with(c[0], 4, c[2]);
            text(x, 0, "1");
            x.set(0, c[1] == 1 ? 4 : 5);
            due(c[0] + " at " + c[2] + (c[1] == 1 ? ", lit" : ", dark"), x.then(1, 0, 1), c[3]);
            due("and who is IN", x.steps(1), c[3] == 0 ? 1 : 0);
            due("and so in steps()", x.ofGoer(0, 3), c[3]);
        }
        of("DISTANCE (0 to 99; 0: IN)");
        ReadingLight x = with(0, 0, 99);
        due("99 is not IN", x.count(8), 0);
        due("0", x.change(0, 1, 0), 99);
        due("0 is IN", x.count(8), 1);
        due("1", x.change(0, 1, 1), 0);
        due("1 is not IN", x.count(8), 0);
        due("100", x.change(0, 1, 100), BEYOND);
        due("-1", x.change(0, 1, -1), BEYOND);
        due("stays", x.change(0, 1, 99), 1);
        due("100, a new one", x.goer(0, 0, 100), BEYOND);
        due("-1, a new one", x.goer(0, 0, -1), BEYOND);
        due("99, a new one", x.goer(0, 0, 99), 1);
        due("0, a new one", x.goer(0, 0, 0), 2);
    }

    private static void whoIsIn() {
        of("all who aren't IN");
        for (int kind = 0; kind <= 6; kind++) {
            for (int stands = 4; stands <= 5; stands++) {
                ReadingLight x = light(with(10 * kind + 2, 4, 0), stands, 1, 0);
                due(kind + " is IN", x.steps(3), 1);
                due(kind + " is IN and stays", x.ofGoer(0, 3), 0);
                due(kind + " is IN and goes not round", x.ofGoer(0, 2), 4);
            }
        }
        ReadingLight x = light(with(62, 15, 2), 15, 1, 0);
        due("it comes in", x.steps(1), 1);
        due("and goes round as it does", x.ofGoer(0, 2), 1);
        x.set(0, 1);
        x.steps(1);
        due("but no more then", x.ofGoer(0, 2), 1);
        x.change(0, 1, 3);
        x.steps(1);
        due("it goes on from where it was put", x.ofGoer(0, 3), 1);
        due("and goes round", x.ofGoer(0, 2), 3);
    }

    private static void comesAndRound() {
        of("BULL: the rest of m by 3");
        for (int m = 0; m <= 9; m++) {
            ReadingLight x = with(60 + m, 4, 50);
            due("m " + m, x.ofGoer(0, 5), m % 3);
            x.set(0, 4);
            due("m " + m + ", under the light", x.ofGoer(0, 5), m % 3);
            x.steps(1);
            due("m " + m + ", a step", x.ofGoer(0, 3), 50 - m % 3);
        }
        of("ROUND (by how many BEARINGS it goes up, round)");
        for (int b = 0; b < 16; b++) {
            ReadingLight x = light(with(30, b, 9, 60, b, 9, 0, b, 9, 50, b, 9, 40, b, 9), b, 1, 0);
            due("a cat, " + b, x.ofGoer(0, 6), 1);
            due("a bull, " + b, x.ofGoer(1, 6), 2);
            x.steps(1);
            due("a cat from " + b, x.ofGoer(0, 2), (b + 1) % 16);
            due("a bull from " + b, x.ofGoer(1, 2), (b + 2) % 16);
            due("a goer stays", x.ofGoer(2, 2), b);
            due("a thief stays", x.ofGoer(3, 2), b);
            due("a fleet stays", x.ofGoer(4, 2), b);
            due("a cat in the dark", x.ofGoer(0, 6), 0);
            due("a bull in the dark", x.ofGoer(1, 6), 0);
        }
        of("5 COMES now, 6 ROUND now");
        ReadingLight x = with(0, 0, 0, 10, 0, 0, 20, 0, 0, 30, 0, 0, 40, 0, 0, 50, 0, 0, 68, 0, 0);
        int[] comes = {1, 1, 0, 0, 2, -1, 2};
        int[] round = {0, 0, 0, 1, 0, 0, 2};
        for (int g = 0; g < 7; g++) {
            due("of one who is IN, by its kind", x.ofGoer(g, 5), comes[g]);
            due("of one who is IN, by its kind", x.ofGoer(g, 6), round[g]);
        }
        due("what 7", x.ofGoer(0, 7), BEYOND);
        due("what -1", x.ofGoer(0, -1), BEYOND);
    }

    private static void lit() {
        of("One is LIT, if the light is on its BEARING, and the TEXT gives other than 0");
        ReadingLight x = with(0, 0, 19, 0, 0, 20, 0, 0, 0, 0, 1, 19, 0, 15, 19);
        due("nearer than 20, at the light's bearing", x.lit(), 1 | 4);
        x.set(1, 2);
        due("wider", x.lit(), 1 | 4 | 8);
        x.set(0, 15);
        due("round", x.lit(), 1 | 4 | 16);
        text(x, 0, "0-9");
        due("below 0 is held at 0", x.lit(), 0);
        text(x, 0, "9");
        due("above 1 is held at 1", x.lit(), 1 | 2 | 4 | 16);
        text(x, 0, "0");
        due("0", x.lit(), 0);
        for (int g = 0; g < 5; g++) {
            due("0", x.ofGoer(g, 4), 0);
        }
        due("none", new ReadingLight().lit(), 0);
    }

    private static void aStep() {
        of("A STEP: (1) .. WORDS .. (2) all who aren't IN, at once, by the light as it is .. (3) the light");
        ReadingLight x = light(with(0, 0, 1, 10, 0, 9, 20, 1, 9), 0, 1, 1);
        text(x, 1, "10*i+s");
        x.steps(1);
        due("none was IN yet, STEP was 0", x.count(7), 0);
        due("the ship by the light as it was", x.ofGoer(1, 3), 8);
        due("the suitor by the light as it was", x.ofGoer(2, 3), 8);
        due("the light is further", x.count(2), 1);
        due("STEP is 1 more", x.count(1), 1);
        x.set(4, 1);
        x.steps(1);
        due("one was IN, STEP was 1", x.count(7), 11);
        due("the ship, dark", x.ofGoer(1, 3), 8);
        due("the suitor, lit", x.ofGoer(2, 3), 8);

        of("REACHES .. d DISTANCE");
        x = light(with(10, 0, 20, 0, 0, 20, 50, 0, 19), 0, 1, 0);
        x.steps(1);
        due("too far, as it began", x.ofGoer(0, 3), 20);
        due("a goer, nearer now", x.ofGoer(1, 4), 1);
        due("a thief, off", x.ofGoer(2, 3), 20);
        due("and dark there", x.ofGoer(2, 4), 0);
        x.steps(1);
        due("comes again", x.ofGoer(2, 3), 19);
    }

    // ---- texts

    private static void tape() {
        of("The n lowest bytes (1 .. 8) of a word, the lowest first, come to THE TAPE");
        for (int n = 1; n <= 8; n++) {
            ReadingLight x = new ReadingLight();
            due("n " + n, x.feed(0x3938373635343332L, n), n);
            int answer = x.text(1);
            due("2 .. 9, up to four digits, n " + n, answer, n <= 4 ? 1 : -14);
            due("is empty then", x.count(9), 0);
        }
        ReadingLight x = new ReadingLight();
        due("0", x.feed('1', 0), BEYOND);
        due("9", x.feed('1', 9), BEYOND);
        due("a word below 0", x.feed(-1L, 8), 8);
        due("bytes of 255", x.text(0), -10);
        x.feed(0xffffffffffff3234L, 2);
        x.text(1);
        due("no higher bytes", x.law(1, 0, 0, 0), 42);

        of("THE TAPE (bytes, at most 50)");
        for (int n = 1; n <= 8; n++) {
            x = new ReadingLight();
            int full = 50 / n;
            for (int i = 1; i <= full; i++) {
                due("by " + n, x.feed(0, n), n * i);
            }
            int rest = 50 - full * n;
            due("too many by " + n, x.feed(0, rest + 1), FULL);
            if (rest > 0) {
                due("the rest", x.feed(0, rest), 50);
            }
            due("full", x.feed(0, 1), FULL);
            due("full, eight", x.feed(0, 8), FULL);
            due("BEYOND first", x.feed(0, 0), BEYOND);
            due("BEYOND first", x.feed(0, 9), BEYOND);
            due("bytes", x.count(9), 50);
            due("all are there, the first is wrong", x.text(0), -10);
            due("room again", x.feed(0, 8), 8);
        }

        of("BEYOND (THE TAPE stays)");
        x = new ReadingLight();
        x.feed('8', 1);
        due("use 2", x.text(2), BEYOND);
        due("use -1", x.text(-1), BEYOND);
        due("stays", x.count(9), 1);
        due("and may be read", x.text(1), 1);
        due("as it was", x.law(1, 0, 0, 0), 8);
        due("the other is as at first", x.law(0, 20, 0, 0), 0);
    }

    private static void numbersAndNames() {
        of("a NUMBER of 1 to 4 digits");
        due("one", worth("8"), 8);
        due("four", worth("0080"), 80);
        due("the most", worth("9999-9950"), 49);
        due("five", worth("00080"), -14);
        due("five behind a sign", worth("1+10000"), -16);
        due("four, then a name", worth("1234w"), -14);
        due("one, then a name", worth("1w"), -11);
        due("none", worth("+"), -10);
        due("below 0 by hand", worth("-1"), -10);
        of("NAMES d DISTANCE, m m, s ..; w .., s .., i");
        String names = "dmswi";
        for (int use = 0; use <= 1; use++) {
            for (int i = 0; i < names.length(); i++) {
                boolean known = use == 0 ? i <= 2 : i >= 2;
                due(names.charAt(i) + " of use " + use, text(new ReadingLight(), use, names.substring(i, i + 1)), known ? 1 : -10);
            }
            for (int other = 0; other <= 255; other++) {
                if (names.indexOf((char) other) < 0 && (other < '0' || other > '9')) {
                    boolean opens = other == '!' || other == '(';
                    due("byte " + other, text(new ReadingLight(), use, "" + (char) other), opens ? -11 : -10);
                }
            }
        }
        due("in order", worth("w*9+s*5+i"), 63 + 15 + 2);
    }

    private static void openAtOnce() {
        of("At most 5 of ! and ( are open at once");
        due("5 of !", worth("!!!!!0"), 1);
        due("6 of !", worth("!!!!!!0"), -15);
        due("5 of (", worth("(((((7)))))"), 7);
        due("6 of (", worth("((((((7))))))"), -15);
        due("5 of both", worth("!(!(!7))"), 0);
        due("6 of both, a bracket last", worth("!(!(!(7)))"), -15);
        due("6 of both, a not last", worth("(!(!(!7)))"), -15);
        due("5 closed, and 5 more", worth("(((((1)))))+(((((1)))))"), 2);
        due("5 nots gone, and 5 more", worth("!!!!!0+!!!!!0"), 2);
        due("a not is open up to its end", worth("((((!0+!0))))"), 2);
        due("a not of a bracket holds both open", worth("((((!(0)))))"), -15);
        due("a not that has ended holds none", worth("((((!0*(5)))))"), 5);
        due("brackets in a bracket", worth("(((((1)+(1)))))"), 2);
        due("a sixth behind one that has ended", worth("((((((1"), -15);
        due("a sixth deeper on the right", worth("(1+(1+(1+(1+(1+(1"), -10 - 15);
        due("five on the right", worth("(1+(1+(1+(1+(1)))))"), 5);
        due("five, and too early", worth("!!!!!"), -15);
        due("six in turn", worth("!0+!0+!0+!0+!0+!0"), 6);
    }

    private static void faults() {
        of("FAULT: the place of the first byte with which no TEXT goes on; how many there are, if it ends too early");
        String[] texts = {"", "!", "(", "()", "(1", "(1+", "(1)1", "(1)(", "(1)w", "(1))", "1(", "1!", "w!", "ww", "w1", "12w", "1 ", " 1",
            "W", "<1", "1<", "1<<2", "1<2<3", "1<2=3", "1>2>3", "1=2<3", "1=1=1", "(1<2<3)", "1<2+3<4", "1<2|3<4<5", "1--1", "1++1", "1+*1", "1*", "1/", "1%",
            "1|", "1||1", "1&", "1&&1", "1+!", "1+(", "1+()", ")", "(1+2", "((1)", "!)", "(1<2)<3<4", "1,2", "w=s=i"};
        int[] places = {0, 1, 1, 1, 2, 3, 3, 3, 3, 3, 1, 1, 1, 1, 1, 2, 1, 0,
            0, 0, 2, 2, 3, 3, 3, 3, 3, 4, 5, 7, 2, 2, 2, 2, 2, 2,
            2, 2, 2, 2, 3, 3, 3, 0, 4, 4, 1, 7, 1, 3};
        for (int i = 0; i < texts.length; i++) {
            due(texts[i], worth(texts[i]), -10 - places[i]);
        }
        String fortyNine = "1+".repeat(24) + "1";
        due("49 bytes", worth(fortyNine), 25);
        due("50 bytes, a digit more", worth(fortyNine + "0"), 34);
        due("50 bytes, the last is wrong", worth(fortyNine + ")"), -59);
        due("50 bytes, too early", worth(fortyNine + "+"), -60);
        due("50 bytes, not closed", worth("(" + fortyNine), -60);
        due("50 bytes, closed", worth("1*(" + "1+".repeat(22) + "11)"), 33);

        of("is the TEXT of a USE (0, 1), in place of one ahead");
        ReadingLight y = new ReadingLight();
        for (int i = 0; i < 30; i++) {
            due("one more", text(y, i % 2, i % 2 == 0 ? "d+m=" + i : i + "+w+s"), 1);
            due("the later one alone", i % 2 == 0 ? y.law(0, i, 0, 9) : y.law(1, 1, 2, 99), i % 2 == 0 ? 1 : i + 3);
        }
        due("of the one", y.law(0, 28, 0, 0), 1);
        due("of the other", y.law(1, 0, 0, 0), 29);

        of("-10 less the FAULT (no ERROR; the one ahead stays)");
        ReadingLight x = new ReadingLight();
        due("an empty tape", x.text(0), -10);
        due("the first stays", x.law(0, 19, 0, 0), 1);
        due("a text", text(x, 0, "d=5"), 1);
        due("a fault", text(x, 0, "d=5="), -13);
        due("the tape is empty", x.count(9), 0);
        due("the one ahead stays", x.law(0, 5, 0, 0), 1);
        due("the one ahead stays", x.law(0, 19, 0, 0), 0);
        due("an empty tape again", x.text(0), -10);
        due("a fault of the other", text(x, 1, "1="), -12);
        due("which is as at first", x.law(1, 0, 0, 0), 9);
        for (int k = 1; k <= 5; k++) {
            due("told(" + k + ")", x.told(k), 0);
        }
    }

    private static void quotients() {
        of("Ints that wrap; / cut, % the rest that it leaves, both by 0 are 0");
        due("-7 / 2", worth("(0-7)/2+50"), 47);
        due("7 / -2", worth("7/(0-2)+50"), 47);
        due("-7 / -2", worth("(0-7)/(0-2)"), 3);
        due("-7 % 2", worth("(0-7)%2+50"), 49);
        due("7 % -2", worth("7%(0-2)+50"), 51);
        due("-1 / 2", worth("(0-1)/2+50"), 50);
        due("7 / 0", worth("7/0"), 0);
        due("7 % 0", worth("7%0+50"), 50);
        due("0 / 0", worth("0/0+50"), 50);
        due("-7 / 0", worth("(0-7)/0+50"), 50);
        due("by what is 0", worth("50+7/(3-s)+7%(2-i)"), 50);
        due("most and 1", worth("w+1<0", MAX), 1);
        due("least less 1", worth("w-1>0", MIN), 1);
        due("0 less the least", worth("(0-w)=w", MIN), 1);
        due("twice the least", worth("w*2=0", MIN), 1);
        due("the least by -1", worth("w/(0-1)=w", MIN), 1);
        due("the rest of the least by -1", worth("w%(0-1)=0", MIN), 1);
        due("the most, squared", worth("w*w", MAX), 1);
        due("four of 9999", worth("9999*9999*9999%97+97"), Math.min(99, 9999 * 9999 * 9999 % 97 + 97));
    }

    private static void truths() {
        of("| & < = > ! are 1 or 0, what is not 0 being true");
        int[] some = {-2, -1, 0, 1, 2};
        ReadingLight x = new ReadingLight();
        String[] signs = {"|", "&", "<", "=", ">"};
        for (int sign = 0; sign < signs.length; sign++) {
            text(x, 1, "(w" + signs[sign] + "s)+50");
            for (int w : some) {
                for (int s : some) {
                    boolean[] is = {w != 0 || s != 0, w != 0 && s != 0, w < s, w == s, w > s};
                    due(w + signs[sign] + s, x.law(1, w, s, 0), is[sign] ? 51 : 50);
                }
            }
        }
        text(x, 1, "w<s");
        due("the least and the most", x.law(1, MIN, MAX, 0), 1);
        due("the most and the least", x.law(1, MAX, MIN, 0), 0);
        text(x, 1, "w>s");
        due("the most and the least", x.law(1, MAX, MIN, 0), 1);
        text(x, 1, "!w+50");
        for (int w : some) {
            due("!" + w, x.law(1, w, 0, 0), w == 0 ? 51 : 50);
        }
        due("!MIN", x.law(1, MIN, 0, 0), 50);
    }

    private static void binding() {
        of("T: A { | A }. A: B { & B }. B: S, or S < S, S = S, S > S. S: P { + P, - P }. P: Q { * Q, / Q, % Q }");
        String[] texts = {"2*3+4", "2+3*4", "10-2*3", "20-5-3", "20-5+3", "90/9/2", "90/9*2", "7%4*2", "2*7%4", "2+3*4%5", "1|1&0", "0&1|1",
            "1|0|0", "1&1&0", "0=0&0", "1<2+3", "3+4<2", "4=2+2", "2<1|3>2", "1+1=2&2", "!0+1", "!2*0+3", "!(1=2)", "(2+3)*4", "2*(3+4)", "2-(3-4)",
            "(1<2)<3", "1<(2<3)", "(5)", "5|0", "3&9"};
        int[] worths = {10, 14, 4, 12, 18, 5, 20, 6, 2, 4, 1, 1,
            1, 0, 0, 1, 0, 1, 1, 1, 2, 3, 1, 20, 14, 3,
            1, 0, 5, 1, 1};
        for (int i = 0; i < texts.length; i++) {
            due(texts[i], worth(texts[i]), worths[i]);
        }
    }

    private static void uses() {
        of("held within 0 to 1; without a TEXT d<20");
        ReadingLight x = new ReadingLight();
        int[] d = {MIN, -1, 0, 19, 20, 99, MAX};
        int[] reaches = {1, 1, 1, 1, 0, 0, 0};
        for (int i = 0; i < d.length; i++) {
            due("d " + d[i], x.law(0, d[i], 20, 20), reaches[i]);
        }
        text(x, 0, "d");
        int[] held = {0, 0, 0, 1, 1, 1, 1};
        for (int i = 0; i < d.length; i++) {
            due("d as it is, " + d[i], x.law(0, d[i], 20, 20), held[i]);
        }
        due("1", x.law(0, 1, 0, 0), 1);
        due("2", x.law(0, 2, 0, 0), 1);
        of("held within 0 to 99; without a TEXT 9");
        due("9", x.law(1, MIN, MAX, 0), 9);
        text(x, 1, "w");
        int[][] pages = {{MIN, 0}, {-1, 0}, {0, 0}, {1, 1}, {98, 98}, {99, 99}, {100, 99}, {MAX, 99}};
        for (int[] p : pages) {
            due("w as it is, " + p[0], x.law(1, p[0], 5, 5), p[1]);
        }
        due("use 2", x.law(2, 0, 0, 0), BEYOND);
        due("use -1", x.law(-1, 0, 0, 0), BEYOND);

        of("w the rest of WORDS by 100");
        int[][] words = {{99, 198}, {100, 100}, {101, 102}, {199, 298}, {99899, 99998}, {99950, 99999}, {99999, 99999}};
        light(x, 0, 1, 0);
        for (int[] w : words) {
            x.words(w[0]);
            x.steps(1);
            due("WORDS " + w[0], x.count(7), w[1]);
        }
        of("s the rest of STEP by 16");
        x = light(with(10, 0, 99), 0, 1, 0);
        text(x, 1, "s");
        text(x, 0, "s=15");
        int sum = 0;
        int lit = 0;
        for (int step = 0; step < 50; step++) {
            due("LIT at STEP " + step, x.lit(), step % 16 == 15 ? 1 : 0);
            x.steps(1);
            sum += step % 16;
            lit += step % 16 == 15 ? 1 : 0;
            due("WORDS behind STEP " + step, x.count(7), sum);
            due("the ship behind STEP " + step, x.ofGoer(0, 3), 99 - lit);
        }
        of("i how many are IN");
        x = light(new ReadingLight(), 0, 1, 0);
        text(x, 1, "i+1");
        for (int in = 0; in <= 8; in++) {
            x.words(0);
            x.steps(1);
            due(in + " are IN", x.count(7), in + 1);
            x.goer(30, 3, 0);
        }
        of("d DISTANCE, m m");
        x = light(with(9, 0, 99, 0, 0, 0, 5, 0, 5, 36, 0, 6), 0, 1, 0);
        text(x, 0, "d=99");
        due("d = 99", x.lit(), 1);
        text(x, 0, "d=0");
        due("d = 0", x.lit(), 2);
        text(x, 0, "m=9");
        due("m = 9", x.lit(), 1);
        text(x, 0, "m=0");
        due("m = 0", x.lit(), 2);
        text(x, 0, "m=d");
        due("m = d", x.lit(), 2 | 4 | 8);
    }

    // ---- steps

    private static void stepsToTheLast() {
        of("n (1 to 60) STEPS .. STATE: STEP would be above 9999");
        ReadingLight x = new ReadingLight();
        due("1", x.steps(1), 0);
        due("60", x.steps(60), 0);
        due("STEP", x.count(1), 61);
        due("0", x.steps(0), BEYOND);
        due("61", x.steps(61), BEYOND);
        due("STEP stays", x.count(1), 61);
        x = late(9939);
        x.image();
        due("60 to the last", x.steps(60), 0);
        due("9999", x.count(1), 9999);
        due("one more", x.steps(1), STATE);
        due("60 more", x.steps(60), STATE);
        due("one more, by draws", x.loose(1), STATE);
        due("BEYOND first", x.steps(61), BEYOND);
        due("BEYOND first", x.steps(0), BEYOND);
        due("BEYOND first", x.loose(41), BEYOND);
        due("BEYOND first", x.loose(0), BEYOND);
        due("STEP stays", x.count(1), 9999);
        due("and the light", x.count(2), 15);
        due("restore", x.restore(), 9939);
        x.steps(1);
        due("60 from 9940", x.steps(60), STATE);
        due("59 from 9940", x.steps(59), 0);
        of("n (1 to 40) STEPS by draws .. STATE: STEP would be above 9999");
        x.restore();
        x.steps(20);
        due("40 to the last", x.loose(40), 0);
        due("9999", x.count(1), 9999);
        x.restore();
        x.steps(21);
        int z = x.count(12);
        due("40 from 9960", x.loose(40), STATE);
        due("z stays", x.count(12), z);
        due("TURN stays", x.count(4), 1);
        due("39 from 9960", x.loose(39), 0);
        due("41", x.loose(41), BEYOND);
        due("told STATE", x.told(3), 5);
    }

    private static void thoughtBeyondTheLast() {
        of("(All this is only thought, STEP beyond 9999, too.)");
        ReadingLight x = late(9999);
        x.goer(0, 0, 60);
        x.goer(10, 0, 90);
        text(x, 0, "s=0");
        due("LIT at 10000", x.then(1, 1, 2), 1);
        due("not at 9999", x.then(0, 1, 2), 0);
        due("nor at 10001", x.then(2, 1, 2), 0);
        due("DISTANCE behind 60", x.then(60, 0, 1), 0);
        due("FIRST", x.first(0), 60);
        due("READS", x.reads(36), 50);
        due("PACE", x.pace(60, 0), 1);
        due("PACE", x.pace(60, 1), 36);
        due("LEAD", x.lead(1, 60), 0);
        due("SHADE", x.shade(1, 20), 1);
        due("SHADE, not yet", x.shade(1, 1), 0);
        x.sheet(0, 8, 40);
        x.put(0, 1, 1);
        x.put(0, 17, 1);
        x.put(0, 33, 1);
        due("STOOD", x.stood(0, 1, 0), 32768);
        due("DARK", x.dark(60), 0);
        due("DARK", x.dark(1), 3);
        due("LONG", x.longest(1), 15);
        due("FROM", x.from(1, 60, 0), 0);
        due("FROM", x.from(1, 60, 1), 86);
        due("COST", x.cost(0, 60), 36);
        due("ODDS", x.odds(0, 60, 0), 1);
        int words = x.count(7);
        x.tell(words);
        x.tell(words + 9);
        x.tell(words + 9);
        due("check", x.check(), 0);
        due("STEP stays", x.count(1), 9999);
        due("STATE", x.steps(1), STATE);
    }

    // ---- what would be

    private static void behind() {
        of("BEHIND n STEPS (0 to 60)");
        ReadingLight x = light(with(30, 0, 5, 0, 7, 78, 50, 7, 98), 0, 1, 1);
        due("a cat behind none", x.then(0, 0, 0), 0);
        due("a cat behind one", x.then(1, 0, 0), 1);
        due("a cat behind 15", x.then(15, 0, 0), 15);
        due("a cat behind 16 goes round", x.then(16, 0, 0), 0);
        due("a cat behind 60", x.then(60, 0, 0), 12);
        due("61", x.then(61, 0, 0), BEYOND);
        due("-1", x.then(-1, 0, 0), BEYOND);
        due("what 3", x.then(0, 0, 3), BEYOND);
        due("goer 3", x.then(0, 3, 0), BEYOND);
        light(x, 7, 1, 0);
        due("59: within reach", x.then(59, 1, 2), 1);
        due("58: not yet", x.then(58, 1, 2), 0);
        due("behind 60", x.then(60, 1, 1), 18);
        text(x, 0, "1");
        due("held at 99", x.then(60, 2, 1), 99);
        due("STEP stays", x.count(1), 0);
        due("it stays", x.ofGoer(2, 3), 98);
    }

    private static void first() {
        of("FIRST: behind how many STEPS (0 to 60) more are IN than now first; who (the least)");
        ReadingLight x = with(30, 0, 0, 30, 0, 5);
        due("one is IN, none comes", x.first(0), NONE);
        due("one is IN, none comes", x.first(1), NONE);
        due("what 2, BEYOND first", x.first(2), BEYOND);
        due("what -1, BEYOND first", x.first(-1), BEYOND);
        x.goer(0, 0, 61);
        due("at 61", x.first(0), NONE);
        x.change(2, 1, 60);
        due("at 60", x.first(0), 60);
        due("at 60", x.first(1), 2);
        for (int g = 3; g < 8; g++) {
            x.goer(0, 0, 60);
        }
        due("the least of many", x.first(1), 2);
        x.change(7, 1, 59);
        due("the first, though the last", x.first(1), 7);
        due("at 59", x.first(0), 59);
        x.change(7, 1, 1);
        due("at once", x.first(0), 1);
        x.change(1, 1, 0);
        x.change(0, 1, 1);
        due("one who is IN now counts not", x.first(1), 7);
        x.become(0, 1);
        due("the least of two", x.first(1), 0);
        for (int g = 0; g < 8; g++) {
            x.change(g, 1, 0);
        }
        due("all are IN", x.first(0), NONE);
        due("no goers", new ReadingLight().first(0), NONE);
    }

    private static void reads() {
        of("READS v more (1 to 999): behind how many STEPS (0 to 60)");
        ReadingLight x = light(new ReadingLight(), 0, 1, 0);
        due("0", x.reads(0), BEYOND);
        due("1000", x.reads(1000), BEYOND);
        due("1", x.reads(1), 1);
        due("540 in 60", x.reads(540), 60);
        due("541 not by 60", x.reads(541), NONE);
        text(x, 1, "37");
        due("999, just so", x.reads(999), 27);
        text(x, 1, "16");
        due("960 in 60", x.reads(960), 60);
        due("961", x.reads(961), NONE);
        due("999", x.reads(999), NONE);
        text(x, 1, "17");
        due("999 in 59", x.reads(999), 59);
        text(x, 1, "0");
        due("none is read", x.reads(1), NONE);
        text(x, 1, "50");
        x.words(99000);
        due("held only just", x.reads(999), 20);
        x.words(99001);
        due("held short of it", x.reads(999), NONE);
        due("998 is there", x.reads(998), 20);
        x.words(99999);
        due("no more words", x.reads(1), NONE);
    }

    private static void pace() {
        of("PACE by n (0 to 60): the TURN with which most WORDS are read; of several the least; how many more than now");
        ReadingLight x = new ReadingLight();
        due("n 0", x.pace(0, 0), 0);
        due("n 0", x.pace(0, 1), 0);
        due("n 1", x.pace(1, 0), 0);
        due("n 1", x.pace(1, 1), 9);
        due("n 60", x.pace(60, 0), 0);
        due("n 60", x.pace(60, 1), 540);
        due("n 61", x.pace(61, 0), BEYOND);
        due("n -1", x.pace(-1, 0), BEYOND);
        due("what 2", x.pace(1, 2), BEYOND);
        for (int chair = 1; chair <= 15; chair++) {
            x.set(4, chair);
            due("by two, the chair at " + chair, x.pace(2, 0), chair);
            due("by two, the chair at " + chair, x.pace(2, 1), 9);
        }
        due("not in one", x.pace(1, 0), 0);
        due("not in one", x.pace(1, 1), 0);
        x.set(4, 8);
        due("8 by turns of 8", x.pace(60, 0), 8);
        due("8 by turns of 8", x.pace(60, 1), 270);
        x.set(2, 9);
        due("not by the TURN that is", x.pace(60, 0), 8);
        due("TURN stays", x.count(4), 9);
        x.words(99900);
        due("held", x.pace(60, 1), 99);
        x.words(99990);
        due("held, so the least that comes there at all", x.pace(60, 0), 1);
        due("held", x.pace(60, 1), 9);
    }

    private static void lead() {
        of("LEAD for a set of GOERS by n (0 to 60): the least TURN with which all of them are IN behind n STEPS");
        ReadingLight x = with(0, 0, 60, 10, 15, 1, 30, 0, 0, 30, 3, 7);
        due("none, by 0", x.lead(0, 0), 0);
        due("none, by 60", x.lead(0, 60), 0);
        due("one who is IN, by 0", x.lead(4, 0), 0);
        due("one who isn't, by 0", x.lead(1, 0), NONE);
        due("60 away, by 60", x.lead(1, 60), 0);
        due("60 away, by 59", x.lead(1, 59), NONE);
        due("the greatest TURN", x.lead(2, 2), 15);
        due("a lesser one, by more", x.lead(2, 6), 3);
        due("three", x.lead(7, 60), 1);
        due("four, a cat among them", x.lead(15, 60), NONE);
        due("more than there are", x.lead(16, 60), BEYOND);
        due("more than there are, and one that is", x.lead(17, 60), BEYOND);
        due("below 0", x.lead(-1, 60), BEYOND);
        due("61", x.lead(1, 61), BEYOND);
        due("-1", x.lead(1, -1), BEYOND);
        due("no goers, none of them", new ReadingLight().lead(0, 0), 0);
        due("no goers", new ReadingLight().lead(1, 0), BEYOND);
        due("TURN stays", x.count(4), 1);
        x = with(0, 0, 0, 0, 0, 0, 0, 0, 0, 0, 0, 0, 0, 0, 0, 0, 0, 0, 0, 0, 0, 10, 2, 1);
        due("all eight", x.lead(255, 2), 2);
        due("a ninth", x.lead(256, 2), BEYOND);
        due("a ninth, and all", x.lead(511, 2), BEYOND);
    }

    private static void shade() {
        of("SHADE for a GOER by n (0 to 20): LIT in none of the next n STEPS (as each begins)");
        ReadingLight x = light(with(0, 5, 38), 5, 1, 0);
        due("by 0", x.shade(0, 0), 0);
        due("by 19: not within reach yet", x.shade(0, 19), 0);
        due("by 20: lit as the last begins", x.shade(0, 20), 32);
        due("by 21", x.shade(0, 21), BEYOND);
        due("by -1", x.shade(0, -1), BEYOND);
        due("goer 1", x.shade(1, 0), BEYOND);
        due("goer -1", x.shade(-1, 0), BEYOND);
        x.change(0, 1, 5);
        due("by 1: lit as it begins", x.shade(0, 1), 32);
        due("by 0, though lit now", x.shade(0, 0), 0);
        x.set(3, 32);
        due("SHADED besides those that are", x.shade(0, 20), 0);
        x.set(3, 1 | 2);
        due("others are SHADED", x.shade(0, 20), 32);
        due("SHADES stay", x.count(5), 3);
        of("the fewest BEARINGS .. of several sets the least");
        for (int kind = 0; kind <= 6; kind++) {
            for (int b = 0; b <= 15; b += 5) {
                x = light(with(10 * kind, b, 9), b, 8, 1);
                due(kind + " at " + b + ": one is enough", x.shade(0, 20), 1 << b);
            }
        }
    }

    private static void stood() {
        of("a SHEET tells for a GOER whether it is LIT (1) or not (0) as STEPS 0, 1, .. from now on begin");
        ReadingLight x = light(with(0, 5, 9, 30, 0, 30), 0, 1, 0);
        x.sheet(0, 8, 40);
        for (int i = 0; i < 40; i++) {
            x.put(0, i, 1);
        }
        due("40 times lit", x.stood(0, 0, 0), 32);
        due("one", x.stood(0, 0, 1), 1);
        due("a cat too far off", x.stood(0, 1, 0), 0);
        due("none", x.stood(0, 1, 1), 0);
        x.set(1, 8);
        due("eight, round", x.stood(0, 0, 0), 0xC03F);
        due("eight", x.stood(0, 0, 1), 8);
        x.put(0, 39, 0);
        due("but not the last time", x.stood(0, 0, 0), 0);
        x.put(0, 39, 1);
        x.put(0, 0, 0);
        due("but not the first time", x.stood(0, 0, 0), 0);
        x.sheet(1, 16, 40);
        due("40 times dark", x.stood(1, 0, 0), 65535 - 0xC03F);
        due("40 times dark", x.stood(1, 1, 1), 16);
        x.set(3, 32);
        due("40 times dark, shaded", x.stood(1, 0, 1), 16);
        x.set(3, 0);
        x.sheet(2, 32, 0);
        due("nothing told", x.stood(2, 0, 0), 65535);
        due("nothing told", x.stood(2, 0, 1), 16);
        x.sheet(2, 32, 1);
        due("one, not lit", x.stood(2, 0, 0), 65535 - 0xC03F);
        for (int neither : new int[] {2, -1, 256, MAX, MIN}) {
            x.put(2, 0, neither);
            due(neither + " is neither", x.stood(2, 0, 0), 0);
        }
        due("what 2", x.stood(2, 0, 2), BEYOND);
        due("what -1", x.stood(2, 0, -1), BEYOND);
        due("sheet 4", x.stood(4, 0, 0), BEYOND);
        due("missing", x.stood(3, 0, 0), NONE);
        due("missing, BEYOND first", x.stood(3, 2, 0), BEYOND);
        due("missing, BEYOND first", x.stood(3, 0, 2), BEYOND);
        due("where it stands stays", x.count(2), 0);
        x = sheet(light(with(30, 15, 9), 0, 1, 1), 0, 8, 0, 1, 1, 1);
        due("a cat goes with the light, round", x.stood(0, 0, 0), 1 << 14);
    }

    private static void darkAndLong() {
        of("DARK behind n STEPS: those who were LIT in none of the next n (0 to 60) STEPS");
        ReadingLight x = light(with(0, 5, 78, 0, 5, 79, 0, 5, 9), 5, 1, 0);
        due("0", x.dark(0), 7);
        due("1", x.dark(1), 3);
        due("59", x.dark(59), 3);
        due("60: lit as the last begins", x.dark(60), 2);
        due("61", x.dark(61), BEYOND);
        due("-1", x.dark(-1), BEYOND);
        due("no goers", new ReadingLight().dark(60), 0);
        of("LONG for a GOER: the longest row of STEPS, one behind the other, of the next 60, in which it isn't LIT");
        due("lit as the last of 60 begins", x.longest(0), 59);
        due("lit only behind them", x.longest(1), 60);
        due("lit always", x.longest(2), 0);
        due("goer 3", x.longest(3), BEYOND);
        due("goer -1", x.longest(-1), BEYOND);
        x.change(2, 0, 0);
        due("never", x.longest(2), 60);
        text(x, 0, "s=1");
        x.change(2, 0, 5);
        due("between", x.longest(2), 15);
        text(x, 0, "s>0");
        due("one", x.longest(2), 1);
        text(x, 0, "d<9");
        due("the first alone", x.longest(2), 1);
        text(x, 0, "d>0");
        due("lit while it comes, 51 behind", x.longest(2), 51);
    }

    private static void from() {
        of("FROM for a GOER by n (0 to 60): the BEARING from which .. it is nearest behind n STEPS; of several the least; DISTANCE");
        ReadingLight x = light(with(10, 3, 99, 50, 3, 9, 0, 3, 0, 30, 3, 9, 10, 3, 9), 15, 1, 0);
        due("by 0 from any", x.from(4, 0, 0), 0);
        due("by 0", x.from(4, 0, 1), 9);
        due("the greatest", x.from(4, 1, 0), 15);
        due("the greatest", x.from(4, 1, 1), 8);
        due("by 60", x.from(4, 60, 0), 15);
        due("by 60", x.from(4, 60, 1), 0);
        due("too far for any", x.from(0, 60, 0), 0);
        due("too far for any", x.from(0, 60, 1), 99);
        due("one who is IN", x.from(2, 60, 0), 0);
        due("one who is IN", x.from(2, 60, 1), 0);
        due("a cat never comes", x.from(3, 60, 0), 0);
        due("a cat never comes", x.from(3, 60, 1), 9);
        x.set(0, 0);
        due("a thief where it is dark", x.from(1, 3, 0), 1);
        due("a thief where it is dark", x.from(1, 3, 1), 6);
        x.set(1, 8);
        due("a thief behind eight", x.from(1, 3, 0), 8);
        x.set(3, 4);
        due("a thief in the shade", x.from(1, 3, 0), 2);
        due("61", x.from(0, 61, 0), BEYOND);
        due("-1", x.from(0, -1, 0), BEYOND);
        due("what 2", x.from(0, 0, 2), BEYOND);
        due("goer 5", x.from(5, 0, 0), BEYOND);
        due("it stays", x.ofGoer(0, 2), 3);
    }

    private static void cost() {
        of("COST of a BEARING by n (0 to 60): how many WORDS fewer are read in n STEPS, were it SHADED, too");
        ReadingLight x = light(new ReadingLight(), 0, 1, 0);
        for (int b = 0; b < 16; b++) {
            x.set(0, b);
            x.set(4, b);
            due("by 0, " + b, x.cost(b, 0), 0);
            due("by 1, " + b, x.cost(b, 1), 9);
            due("by 60, " + b, x.cost(b, 60), 540);
            due("another, beside " + b, x.cost((b + 1) % 16, 60), 0);
        }
        due("61", x.cost(0, 61), BEYOND);
        due("-1", x.cost(0, -1), BEYOND);
        due("bearing 16", x.cost(16, 1), BEYOND);
        due("bearing -1", x.cost(-1, 1), BEYOND);
        x.set(3, 32768);
        due("SHADED already", x.cost(15, 60), 0);
        x.set(3, 1);
        due("another is SHADED", x.cost(15, 60), 540);
        x.words(99990);
        due("held", x.cost(15, 60), 9);
        x.words(99999);
        due("held", x.cost(15, 60), 0);
        due("SHADES stay", x.count(5), 1);
        x = light(with(10, 3, 1), 0, 4, 0);
        text(x, 1, "i");
        due("one who'd not come in", x.cost(3, 3), 2);
        x.become(0, 20);
        due("one who'd come in: fewer than none", x.cost(3, 3), -2);
    }

    private static void odds() {
        of("a fraction in lowest terms (0 is 0 by 1)");
        ReadingLight x = with(10, 8, 1, 30, 0, 0, 30, 0, 1);
        int[] above = {0, 1, 1, 3, 1, 5, 3, 7, 1, 9, 5, 11, 3, 13, 7, 15, 1};
        int[] below = {1, 16, 8, 16, 4, 16, 8, 16, 2, 16, 8, 16, 4, 16, 8, 16, 1};
        for (int n = 0; n <= 16; n++) {
            due(n + " of 16, above", x.odds(0, n, 0), above[n]);
            due(n + " of 16, below", x.odds(0, n, 1), below[n]);
        }
        due("60, above", x.odds(0, 60, 0), 1);
        due("60, below", x.odds(0, 60, 1), 1);
        due("one who is IN, by 0", x.odds(1, 0, 0), 1);
        due("one who is IN, by 0", x.odds(1, 0, 1), 1);
        due("a cat, by 60", x.odds(2, 60, 0), 0);
        due("a cat, by 60", x.odds(2, 60, 1), 1);
        due("61", x.odds(0, 61, 0), BEYOND);
        due("-1", x.odds(0, -1, 0), BEYOND);
        due("part 2", x.odds(0, 0, 2), BEYOND);
        due("part -1", x.odds(0, 0, -1), BEYOND);
        due("goer 3", x.odds(3, 0, 0), BEYOND);
        due("where it stands stays", x.count(2), 0);
        x.set(3, 256);
        due("in the shade", x.odds(0, 60, 0), 0);
        due("in the shade", x.odds(0, 60, 1), 1);
    }

    // ---- draws, voices

    private static void nights() {
        of("z * 1103515245 + 12345 (an int), and gives z >>> 8. Each: a draw: TURN is its rest by 16; then a STEP");
        ReadingLight x = new ReadingLight();
        due("1 at first", x.count(12), 1);
        due("one", x.loose(1), 0);
        due("z", x.count(12), 1103527590);
        due("TURN", x.count(4), 14);
        due("the STEP is by that TURN", x.count(2), 14);
        due("STEP", x.count(1), 1);
        due("z was", x.seed(-1), 1103527590);
        x.set(0, 0);
        x.loose(1);
        due("below 0", x.count(12), -1103502900);
        due("its bits go down without a sign", x.count(4), 1);
        due("0", x.seed(0), -1103502900);
        x.loose(1);
        due("from 0", x.count(12), 12345);
        due("from 0", x.count(4), 48 % 16);
        due("the least", x.seed(MIN), 12345);
        x.loose(1);
        due("from the least", x.count(12), MIN * 1103515245 + 12345);
        due("the most", x.seed(MAX), MIN * 1103515245 + 12345);
        x.loose(1);
        due("from the most", x.count(12), MAX * 1103515245 + 12345);
        due("40", x.loose(40), 0);
        due("STEP", x.count(1), 45);
        due("41", x.loose(41), BEYOND);
        due("0", x.loose(0), BEYOND);
        due("-1", x.loose(-1), BEYOND);
        due("STEP stays", x.count(1), 45);
        for (int v : new int[] {0, -1, 1, MIN, MAX, BEYOND, LOW - 5}) {
            x.seed(v);
            due("any number, " + v, x.count(12), v);
            due("any number, " + v, x.seed(v), v);
        }
        due("which is no ERROR", x.told(1), 3);
        due("which is no ERROR", x.told(5), 0);
    }

    private static void voices() {
        of("VOICES of a GOER, with a number x (ints that go round)");
        ReadingLight x = with(9, 0, 0, 19, 0, 0, 29, 0, 0, 39, 0, 0, 49, 0, 0, 59, 0, 0, 69, 0, 0, 9, 0, 0);
        for (int v : new int[] {0, MAX, MIN, MAX - 2, MIN + 2}) {
            for (int g = 0; g < 8; g++) {
                int sails = g == 1 || g == 4 ? (v + g) * 3 : v + g;
                due("sails " + v + " of " + g, x.voice(g, 0, v), sails);
                int casts = g == 3 ? -(v - 9) : g == 6 ? -(v - 9) ^ 6 : v - 9;
                due("casts " + v + " of " + g, x.voice(g, 2, v), casts);
                int creeps = g == 2 ? (v + 2) * 2 - (1 - 9) : g == 5 ? (v + 1 + 5) * 2 - (1 - 9) : sails * 2;
                due("creeps " + v + " of " + g, x.voice(g, 1, v), creeps);
                int tells = g == 4 ? (creeps ^ casts) - (2 + 4) * 3 : g == 6 ? creeps - (creeps ^ casts) : creeps ^ casts;
                due("tells " + v + " of " + g, x.voice(g, 3, v), tells);
            }
        }
        due("goer 8", x.voice(8, 0, 0), BEYOND);
        due("act 4", x.voice(0, 4, 0), BEYOND);
        due("act -1", x.voice(0, -1, 0), BEYOND);

        of("THE TRACE: the numbers of BODIES of the latest voice(), as they began (what stands left is worked out first)");
        int[][] tells = {{13, 11, 10, 12}, {13, 11, 20, 10, 12}, {13, 30, 11, 10, 12, 12}, {13, 11, 10, 40, 12}, {50, 13, 11, 20, 10, 12, 20, 10},
            {13, 60, 30, 11, 10, 12, 12}, {71, 11, 10, 13, 11, 10, 70, 40, 12}};
        x = with(0, 0, 0, 10, 0, 0, 20, 0, 0, 30, 0, 0, 40, 0, 0, 50, 0, 0, 60, 0, 0);
        due("no voice yet", x.count(11), 0);
        due("no voice yet", x.trace(0), NONE);
        for (int g = 6; g >= 0; g--) {
            x.voice(g, 3, 1);
            due("how many of " + g, x.count(11), tells[g].length);
            for (int i = 0; i < tells[g].length; i++) {
                due(i + " of " + g, x.trace(i), tells[g][i]);
            }
            due("no more of " + g, x.trace(tells[g].length), NONE);
            due("none ahead", x.trace(-1), NONE);
        }
        x.voice(0, 0, 1);
        due("the latest alone", x.count(11), 1);
        due("the latest alone", x.trace(0), 10);
        due("the latest alone", x.trace(1), NONE);
        x.voice(9, 0, 1);
        due("a refused one leaves it", x.count(11), 1);
        due("40", x.trace(40), NONE);
        due("39", x.trace(39), NONE);
    }

    // ---- sheets

    private static void sheets() {
        of("SHEETS 0 .. 3 are rows of 8, 16, 32 bits, at most 40 numbers, or missing (as at first)");
        ReadingLight x = new ReadingLight();
        for (int s = 0; s <= 3; s++) {
            due("missing at first", x.put(s, 0, 0), NONE);
            for (int bits = 8; bits <= 32; bits *= 2) {
                due("40 of " + bits, x.sheet(s, bits, 40), 1);
                due("the first", x.put(s, 0, 1), 1);
                due("the last", x.put(s, 39, 1), 1);
                due("one more", x.put(s, 40, 1), BEYOND);
                due("41", x.sheet(s, bits, 41), BEYOND);
                due("-1", x.sheet(s, bits, -1), STATE);
                due("it stays", x.put(s, 39, 1), 1);
                due("none of " + bits, x.sheet(s, bits, 0), 1);
                due("no first", x.put(s, 0, 1), BEYOND);
                due("is not missing", x.judge(s), -1);
                due("one of " + bits, x.sheet(s, bits, 1), 1);
                due("a first", x.put(s, 0, 1), 1);
                due("no second", x.put(s, 1, 1), BEYOND);
            }
            due("missing again", x.sheet(s, 0, 41), 1);
            due("missing again", x.put(s, 0, 0), NONE);
        }
        of("0: it is missing, n doesn't matter");
        for (int n : new int[] {0, 1, 40, 41, -1, MIN, MAX}) {
            x.sheet(0, 8, 1);
            due("n " + n, x.sheet(0, 0, n), 1);
            due("missing", x.judge(0), NONE);
        }
        due("missing and missing again", x.sheet(0, 0, 0), 1);
        of("BEYOND. STATE: n is below 0 (ahead of BEYOND of n)");
        due("no such sheet, n -1", x.sheet(4, 8, -1), BEYOND);
        due("no such sheet, n -1", x.sheet(-1, 8, -1), BEYOND);
        due("no such bits, n -1", x.sheet(0, 7, -1), BEYOND);
        due("no such bits, n -1", x.sheet(0, -1, -1), BEYOND);
        due("no such bits, n 41", x.sheet(0, 64, 41), BEYOND);
        due("n -1", x.sheet(0, 8, -1), STATE);
        due("n least", x.sheet(0, 8, MIN), STATE);
        due("n 41", x.sheet(0, 8, 41), BEYOND);
        due("n most", x.sheet(0, 8, MAX), BEYOND);
        due("no such sheet, missing", x.sheet(4, 0, 0), BEYOND);
        of("A SHEET has n numbers, all 0");
        x = with(0, 0, 9, 0, 0, 9);
        sheet(x, 0, 32, 5, 6);
        due("not 0", x.judge(0), 0);
        x.sheet(0, 32, 2);
        due("all 0 again", x.judge(0), -1);
        x.put(0, 1, 6);
        x.sheet(0, 8, 1);
        x.sheet(0, 8, 2);
        due("all 0, behind a shorter one", x.judge(0), -1);
        x.put(0, 1, 6);
        x.sheet(0, 0, 2);
        x.sheet(0, 16, 2);
        due("all 0, behind missing", x.judge(0), -1);
    }

    private static void lowestBits() {
        of("Number i of a SHEET becomes v (its lowest bits)");
        ReadingLight x = with(0, 0, 50);
        int[] bits = {8, 16, 32};
        // What is put, and which distance 8, 16, 32 bits of it are (-1: none).
        int[][] cases = {{99, 99, 99, 99}, {0, 0, 0, 0}, {100, -1, -1, -1}, {256, 0, -1, -1}, {256 + 99, 99, -1, -1}, {-256 + 99, 99, -1, -1},
            {65536, 0, 0, -1}, {65536 + 99, 99, 99, -1}, {-65536 + 99, 99, 99, -1}, {MIN, 0, 0, -1}, {MIN + 99, 99, 99, -1}, {MAX, -1, -1, -1},
            {-1, -1, -1, -1}, {128, -1, -1, -1}, {255, -1, -1, -1}, {32768, 0, -1, -1}, {65535, -1, -1, -1}, {-128, -1, -1, -1}};
        for (int b = 0; b < 3; b++) {
            x.sheet(0, bits[b], 1);
            for (int[] c : cases) {
                x.change(0, 1, 50);
                due("put", x.put(0, 0, c[0]), 1);
                due(bits[b] + " bits of " + c[0], x.distances(0), c[1 + b] < 0 ? 0 : 1);
                due(bits[b] + " bits of " + c[0], x.ofGoer(0, 3), c[1 + b] < 0 ? 50 : c[1 + b]);
            }
        }
        due("no such sheet", x.put(4, 0, 0), BEYOND);
        due("missing", x.put(1, 0, 0), NONE);
        due("missing, ahead of no such number", x.put(1, 40, 0), NONE);
        due("no such number", x.put(0, 1, 0), BEYOND);
        due("no such number", x.put(0, -1, 0), BEYOND);
    }

    /** Eight goers' bearings are a sheet's numbers 0 to 7, if it may be judged so. */
    private static void judged(String what, ReadingLight x, int sheet, int... numbers) {
        for (int g = 0; g < 8; g++) {
            x.change(g, 0, numbers[g]);
        }
        due(what, x.judge(sheet), -1);
    }

    private static void moves() {
        of("n numbers of a SHEET .. come to another one (or the same) .. as they all were");
        int[] eight = new int[24];
        ReadingLight x = sheet(with(eight), 0, 8, 0, 1, 2, 3, 4, 5, 6, 7);
        due("up, by one", x.move(0, 0, 0, 1, 7), 7);
        judged("up, by one", x, 0, 0, 0, 1, 2, 3, 4, 5, 6);
        sheet(x, 0, 8, 0, 1, 2, 3, 4, 5, 6, 7);
        due("down, by one", x.move(0, 1, 0, 0, 7), 7);
        judged("down, by one", x, 0, 1, 2, 3, 4, 5, 6, 7, 7);
        due("onto itself", x.move(0, 0, 0, 0, 8), 8);
        judged("onto itself", x, 0, 1, 2, 3, 4, 5, 6, 7, 7);
        due("none, at the end", x.move(0, 8, 0, 8, 0), 0);
        due("the last", x.move(0, 7, 0, 0, 1), 1);
        judged("the last", x, 0, 7, 2, 3, 4, 5, 6, 7, 7);
        due("to the last", x.move(0, 1, 0, 7, 1), 1);
        judged("to the last", x, 0, 7, 2, 3, 4, 5, 6, 7, 2);
        for (int bits = 8; bits <= 32; bits *= 2) {
            x.sheet(1, bits, 40);
            x.sheet(2, bits, 8);
            for (int i = 0; i < 8; i++) {
                x.put(1, 32 + i, 15 - i);
            }
            due("from another's end", x.move(1, 32, 2, 0, 8), 8);
            judged("from another's end", x, 2, 15, 14, 13, 12, 11, 10, 9, 8);
            due("all 40", x.move(1, 0, 1, 0, 40), 40);
            due("41", x.move(1, 0, 1, 0, 41), BEYOND);
            due("one too far", x.move(1, 33, 2, 0, 8), BEYOND);
            due("one too far there", x.move(1, 32, 2, 1, 8), BEYOND);
        }
        x.sheet(3, 32, 0);
        due("none to none", x.move(3, 0, 3, 0, 0), 0);
        due("none to a row", x.move(3, 0, 2, 8, 0), 0);
        due("one of none", x.move(3, 0, 2, 0, 1), BEYOND);
        due("one to none", x.move(2, 0, 3, 0, 1), BEYOND);
        due("behind none", x.move(3, 1, 2, 0, 0), BEYOND);

        of("BEYOND: no such SHEET. NONE: one is missing. KIND: they are of unlike bits. BEYOND: n, i, or j is below 0");
        x.sheet(1, 0, 0);
        due("no such sheet, the other missing", x.move(4, 0, 1, 0, 0), BEYOND);
        due("missing, the other is none such", x.move(1, 0, -1, 0, 0), BEYOND);
        due("missing, of unlike bits", x.move(0, 0, 1, 0, 0), NONE);
        due("missing, n below 0", x.move(1, 0, 2, 0, -1), NONE);
        due("unlike, n below 0", x.move(0, 0, 2, 0, -1), KIND);
        due("n below 0", x.move(2, 0, 2, 0, -1), BEYOND);
        due("i below 0", x.move(2, -1, 2, 0, 1), BEYOND);
        due("j below 0", x.move(2, 0, 2, -1, 1), BEYOND);
        due("i below 0, none of them", x.move(2, -1, 2, 0, 0), BEYOND);
        due("j below 0, none of them", x.move(2, 0, 2, -1, 0), BEYOND);
        due("far", x.move(2, MAX, 2, 0, 1), BEYOND);
        due("far", x.move(2, 0, 2, MAX, 1), BEYOND);
        due("far", x.move(2, 1, 2, 1, MAX), BEYOND);
        due("far", x.move(2, MIN, 2, 0, MIN), BEYOND);
    }

    private static void distances() {
        of("how many, up to the first that is not 0 to 99 (no ERROR then), or for which there is no GOER");
        ReadingLight x = with(0, 0, 9, 0, 0, 9, 0, 0, 9);
        x.sheet(0, 32, 0);
        due("no numbers", x.distances(0), 0);
        sheet(x, 0, 32, 0, 99, 5);
        due("all", x.distances(0), 3);
        due("0", x.ofGoer(0, 3), 0);
        due("99", x.ofGoer(1, 3), 99);
        due("5", x.ofGoer(2, 3), 5);
        sheet(x, 0, 32, 100, 1, 1);
        due("the first is 100", x.distances(0), 0);
        due("it stays", x.ofGoer(0, 3), 0);
        sheet(x, 0, 32, 1, -1, 1);
        due("the second is -1", x.distances(0), 1);
        due("the first came", x.ofGoer(0, 3), 1);
        due("the second stays", x.ofGoer(1, 3), 99);
        due("the third stays, too", x.ofGoer(2, 3), 5);
        sheet(x, 0, 32, 7, 7, 7, 7);
        due("one too many", x.distances(0), 3);
        sheet(x, 0, 32, 8, 8, 8, 100);
        due("one too many, which is 100", x.distances(0), 3);
        sheet(x, 0, 32, 6, 6);
        due("one too few", x.distances(0), 2);
        due("it stays", x.ofGoer(2, 3), 8);
        due("no ERROR", x.told(1), 0);
        due("no such sheet", x.distances(4), BEYOND);
        due("no such sheet", x.distances(-1), BEYOND);
        due("missing", x.distances(1), NONE);
        ReadingLight y = new ReadingLight();
        y.sheet(0, 8, 40);
        due("no goers", y.distances(0), 0);
        for (int g = 0; g < 8; g++) {
            y.goer(0, 0, 9);
        }
        due("eight goers, 40 numbers", y.distances(0), 8);
        due("all are IN", y.count(8), 255);
    }

    private static void judge() {
        of("the first that isn't so (one that lacks, or is too many, too); -1: all are");
        ReadingLight x = new ReadingLight();
        x.sheet(0, 8, 0);
        due("none of none", x.judge(0), -1);
        x.sheet(0, 8, 1);
        due("one too many, of none", x.judge(0), 0);
        x.goer(0, 0, 9);
        due("one", x.judge(0), -1);
        x.goer(0, 15, 9);
        due("one lacks", x.judge(0), 1);
        x.sheet(0, 8, 0);
        due("all lack", x.judge(0), 0);
        sheet(x, 0, 8, 0, 15);
        due("both", x.judge(0), -1);
        sheet(x, 0, 8, 1, 15);
        due("not the first", x.judge(0), 0);
        sheet(x, 0, 8, 0, 14);
        due("not the second", x.judge(0), 1);
        sheet(x, 0, 8, 0, 31);
        due("31 is not 15", x.judge(0), 1);
        sheet(x, 0, 8, 16, 15);
        due("16 is not 0", x.judge(0), 0);
        sheet(x, 0, 8, 0, 15, 0);
        due("a third is too many", x.judge(0), 2);
        sheet(x, 0, 8, 0, 14, 0);
        due("not the second, and a third", x.judge(0), 1);
        sheet(x, 0, 8, 1);
        due("not the first, and one lacks", x.judge(0), 0);
        sheet(x, 0, 16, 0, 15);
        due("16 bits", x.judge(0), -1);
        sheet(x, 0, 32, 0, 15);
        due("32 bits", x.judge(0), -1);
        due("no such sheet", x.judge(4), BEYOND);
        due("no such sheet", x.judge(-1), BEYOND);
        due("missing", x.judge(1), NONE);
        ReadingLight y = with(new int[24]);
        y.sheet(3, 8, 8);
        due("eight", y.judge(3), -1);
        y.sheet(3, 8, 40);
        due("40", y.judge(3), 8);
    }

    // ---- images, what is told

    private static void images() {
        of("is kept as an IMAGE, in place of one ahead: how often that was done");
        ReadingLight x = new ReadingLight();
        due("none yet", x.restore(), NONE);
        due("of an empty one", x.image(), 1);
        x.goer(5, 5, 5);
        x.steps(60);
        due("STEP", x.restore(), 0);
        due("no goers", x.count(0), 0);
        due("goer 0 is none", x.ofGoer(0, 0), BEYOND);
        due("the light", x.count(2), 0);
        due("WORDS", x.count(7), 0);
        due("a new one", x.goer(69, 4, 4), 0);
        due("is itself", x.ofGoer(0, 0), 6);
        x.steps(1);
        due("twice", x.image(), 2);
        due("it stays", x.restore(), 1);
        due("and stays", x.restore(), 1);
        due("a goer is there", x.count(0), 1);
        for (int g = 1; g < 8; g++) {
            x.goer(0, 0, g);
        }
        due("eight", x.image(), 3);
        due("no ninth", x.goer(0, 0, 0), FULL);
        due("eight", x.restore(), 1);
        due("no ninth", x.goer(0, 0, 0), FULL);
        due("how often is not brought back", x.image(), 4);
        of("All (but SHEETS, THE TRACE, what told() tells, and how often this was done)");
        for (int i = 0; i < 20; i++) {
            x.tell(i);
        }
        for (int i = 0; i < 50; i++) {
            x.feed('!', 1);
        }
        x.sheet(0, 8, 40);
        x.voice(0, 2, 0);
        x.image();
        due("20 wait", x.tell(0), FULL);
        due("the tape is full", x.feed('1', 1), FULL);
        x.check();
        x.text(0);
        x.sheet(0, 8, 1);
        x.voice(1, 0, 0);
        int full = x.told(4);
        x.restore();
        due("20 wait again", x.tell(0), FULL);
        due("the tape is full again", x.feed('1', 1), FULL);
        due("what is told goes on", x.told(4), full + 2);
        due("the sheet is as it was ahead", x.put(0, 1, 0), BEYOND);
        due("the trace is as it was ahead", x.count(11), 1);
        due("the trace is as it was ahead", x.trace(0), 10);
        of("what waits and the tape of an image are its own");
        x.check();
        x.text(0);
        due("20 wait in the image", x.restore(), 1);
        due("20 wait", x.count(10), 20);
        due("50 bytes", x.count(9), 50);
        due("as they were", x.text(0), -15);
        of("z, TURN and what else a draw changes are in an image");
        x = new ReadingLight();
        x.seed(MIN);
        x.image();
        x.loose(40);
        due("STEP", x.restore(), 0);
        due("z", x.count(12), MIN);
        due("TURN", x.count(4), 1);
        due("where it stands", x.count(2), 0);
    }

    private static void waiting() {
        of("One more number waits: how many. FULL: 20 wait");
        ReadingLight x = light(new ReadingLight(), 0, 1, 0);
        for (int i = 1; i <= 20; i++) {
            due("one more", x.tell(9 * i), i);
        }
        due("20 wait", x.tell(0), FULL);
        due("20 wait", x.count(10), 20);
        of("The numbers that wait (none do then) are WORDS behind 1, 2, .. STEPS: 0; else 1 and the place");
        due("all are", x.check(), 0);
        due("none do then", x.count(10), 0);
        due("none: all are", x.check(), 0);
        for (int place = 0; place < 20; place++) {
            for (int i = 0; i < 20; i++) {
                x.tell(9 * (i + 1) + (i >= place ? 1 : 0));
            }
            due("place " + place, x.check(), 1 + place);
            due("none do then", x.count(10), 0);
        }
        x = light(new ReadingLight(), 0, 1, 0);
        x.words(99990);
        x.tell(99999);
        x.tell(99999);
        due("held", x.check(), 0);
        x.tell(99990);
        due("not WORDS now", x.check(), 1);
        x.tell(100008);
        due("not beyond", x.check(), 1);
        for (int v : new int[] {MIN, MAX, -1, LOW - 1}) {
            due("any number", x.tell(v), 1);
            due("any number", x.check(), 1);
        }
        due("one is, one isn't", x.tell(99999), 1);
        due("one is, one isn't", x.tell(0), 2);
        due("one is, one isn't", x.check(), 2);
        due("only thought", x.count(7), 99990);
        due("only thought", x.count(1), 0);
    }

    private static void told() {
        of("How many acts have answered an ERROR LOW - k (k 1 .. 5); BEYOND: another k (counted, too)");
        ReadingLight x = new ReadingLight();
        for (int k = 1; k <= 5; k++) {
            due("none yet", x.told(k), 0);
        }
        due("0", x.told(0), BEYOND);
        due("counted, too", x.told(1), 1);
        due("6", x.told(6), BEYOND);
        due("-1", x.told(-1), BEYOND);
        due("least", x.told(MIN), BEYOND);
        due("most", x.told(MAX), BEYOND);
        due("counted, too", x.told(1), 5);
        due("told() itself is none", x.told(1), 5);
        for (int i = 0; i < 300; i++) {
            x.count(13);
        }
        due("many", x.told(1), 305);
        for (int k = 2; k <= 5; k++) {
            due("the others stay", x.told(k), 0);
        }
        of("count: BEYOND");
        due("-1", x.count(-1), BEYOND);
        due("13", x.count(13), BEYOND);
        due("12", x.count(12), 1);
        due("0", x.count(0), 0);
    }
}
