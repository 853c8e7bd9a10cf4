/**
 * Sentences of the document, from its first line on, by what they say of several calls together:
 * objects beside one another, names in order, kinds that become others, laws in what is only
 * thought. What a sentence says of bounds is in EdgeTests.
 */
public final class SentenceTests {
    private static final int LOW = -1000000000;
    private static final int BEYOND = LOW - 1;
    private static final int NONE = LOW - 2;
    private static final int STATE = LOW - 3;
    private static final int KIND = LOW - 5;

    private static String sentence = "";
    private static int wrong = 0;
    private static int asked = 0;

    private static void of(String words) {
        sentence = words;
    }

    private static void due(String what, long got, long want) {
        asked++;
        if (got != want) {
            wrong++;
            System.out.println("\"" + sentence + "\", " + what + ": answered " + got + ", due is " + want);
        }
    }

    public static void main(String[] args) {
        atMost512Calls();
        aNewObjectBesideOthers();
        twoObjectsInTurn();
        ofUnknownGoers();
        theLightBehindIt();
        namesInOrder();
        lawsAreTheirOwn();
        sForGoersAndPage();
        aKindBecomesAnother();
        aStepInItsOrder();
        stepsAreOneAfterTheOther();
        thoughtsGoByBothLaws();
        thoughtsOfThePageBeyondTheLast();
        paceAndWhoIsIn();
        leadByTheDark();
        firstOfEachKind();
        shadeOfThoseWhoGoRound();
        stoodByEachKind();
        longestAtItsEnds();
        fromOfEachKind();
        costOfTheChair();
        oddsOfEachKind();
        nightsAreSteps();
        looseAndSteps();
        voicesOfWhatItHasBecome();
        traceAndImage();
        sheetsAndDistances();
        imageOfLaws();
        checkAndSteps();
        acts();
        System.out.println(asked - wrong + " answers as due, " + wrong + " not");
        if (wrong != 0) {
            System.exit(1);
        }
    }

    // ---- helpers

    private static ReadingLight with(int... kmBearingDistance) {
        ReadingLight x = new ReadingLight();
        for (int i = 0; i + 2 < kmBearingDistance.length; i += 3) {
            x.goer(kmBearingDistance[i], kmBearingDistance[i + 1], kmBearingDistance[i + 2]);
        }
        return x;
    }

    private static ReadingLight light(ReadingLight x, int stands, int width, int turn) {
        x.set(0, stands);
        x.set(1, width);
        x.set(2, turn);
        return x;
    }

    private static int text(ReadingLight x, int use, String text) {
        for (int i = 0; i < text.length(); i++) {
            x.feed(text.charAt(i), 1);
        }
        return x.text(use);
    }

    private static ReadingLight sheet(ReadingLight x, int sheet, int bits, int... numbers) {
        x.sheet(sheet, bits, numbers.length);
        for (int i = 0; i < numbers.length; i++) {
            x.put(sheet, i, numbers[i]);
        }
        return x;
    }

    private static ReadingLight late(int step) {
        ReadingLight x = new ReadingLight();
        for (int at = 0; at < step; at += 60) {
            x.steps(Math.min(60, step - at));
        }
        return x;
    }

    private static void asAtFirst(ReadingLight x) {
        int[] want = {0, 0, 0, 1, 1, 0, 0, 0, 0, 0, 0, 0, 1};
        for (int what = 0; what < want.length; what++) {
            due("count(" + what + ")", x.count(what), want[what]);
        }
        for (int k = 1; k <= 5; k++) {
            due("told(" + k + ")", x.told(k), 0);
        }
        due("reaches 19", x.law(0, 19, 99, 99), 1);
        due("reaches 20", x.law(0, 20, 0, 0), 0);
        due("a page", x.law(1, 50, 5, 5), 9);
        for (int b = 0; b < 16; b++) {
            due("on " + b, x.ofBearing(b, 0), b == 0 ? 1 : 0);
            due("goers on " + b, x.ofBearing(b, 1), 0);
        }
        for (int s = 0; s <= 3; s++) {
            due("sheet " + s, x.judge(s), NONE);
        }
        due("image", x.restore(), NONE);
        due("trace", x.trace(0), NONE);
    }

    // ---- what it is, and ERRORS

    private static void atMost512Calls() {
        of("An object is used for at most 512 calls after it has been made");
        ReadingLight x = new ReadingLight();
        for (int call = 1; call <= 509; call++) {
            due("call " + call, x.words(call), call - 1);
        }
        due("call 510", x.goer(69, 15, 99), 0);
        due("call 511", x.ofGoer(0, 1), 9);
        due("call 512", x.count(7), 509);
        x = new ReadingLight();
        for (int call = 1; call <= 511; call++) {
            due("call " + call, x.image(), call);
        }
        due("call 512", x.restore(), 0);
        x = new ReadingLight();
        for (int call = 1; call <= 256; call++) {
            x.feed(call % 2 == 0 ? '7' : '8', 1);
            due("text after text", x.text(1), 1);
        }
        x = new ReadingLight();
        for (int call = 1; call <= 511; call++) {
            due("call " + call, x.told(6), BEYOND);
        }
        due("call 512", x.told(1), 511);
    }

    private static void aNewObjectBesideOthers() {
        of("All as at first; no GOERS");
        asAtFirst(new ReadingLight());
        ReadingLight used = with(65, 3, 4, 51, 0, 9);
        light(used, 7, 8, 15);
        used.set(3, 65535);
        used.set(4, 9);
        text(used, 0, "0");
        text(used, 1, "99");
        used.loose(40);
        used.words(99999);
        used.seed(-5);
        used.voice(0, 3, 9);
        sheet(used, 0, 8, 1, 2, 3);
        used.feed('1', 1);
        used.tell(4);
        used.image();
        used.as(0, 1);
        used.told(0);
        asAtFirst(new ReadingLight());
        due("the other stays as it is", used.count(7), 99999);
        due("the other stays as it is", used.law(0, 0, 0, 0), 0);
    }

    /** The same run on two objects, one of them with another's calls in between. */
    private static void twoObjectsInTurn() {
        of("nothing of one object is another's");
        ReadingLight alone = new ReadingLight();
        ReadingLight beside = new ReadingLight();
        ReadingLight other = new ReadingLight();
        for (int i = 0; i < 12; i++) {
            due("call " + i, run(beside, i), run(alone, i));
            run(other, 11 - i);
        }
        for (int what = 0; what <= 12; what++) {
            due("count(" + what + ")", beside.count(what), alone.count(what));
        }
        due("its law", beside.law(1, 5, 6, 7), 57);
        due("its trace", beside.trace(0), 71);
        due("its image", beside.restore(), 9);
    }

    private static int run(ReadingLight x, int i) {
        switch (i) {
            case 0: return x.goer(62, 0, 30);
            case 1: return x.goer(10, 3, 5);
            case 2: return text(x, 1, "w*10+i");
            case 3: return x.set(1, 4);
            case 4: return x.voice(0, 3, 7);
            case 5: return x.steps(9);
            case 6: return x.image();
            case 7: return x.tell(77);
            case 8: return x.loose(4);
            case 9: return x.longest(0);
            case 10: return x.restore();
            default: return x.lead(2, 60);
        }
    }

    private static void ofUnknownGoers() {
        of("GOERS 0, 1, ..: one that is not there is BEYOND, whatever else is asked");
        ReadingLight x = new ReadingLight();
        for (int goers = 0; goers < 8; goers++) {
            due("ofGoer", x.ofGoer(goers, 0), BEYOND);
            due("change", x.change(goers, 0, 0), BEYOND);
            due("become", x.become(goers, 0), BEYOND);
            due("as", x.as(goers, 0), BEYOND);
            due("then", x.then(0, goers, 0), BEYOND);
            due("shade", x.shade(goers, 0), BEYOND);
            due("stood", x.stood(0, goers, 0), BEYOND);
            due("longest", x.longest(goers), BEYOND);
            due("from", x.from(goers, 0, 0), BEYOND);
            due("odds", x.odds(goers, 0, 0), BEYOND);
            due("voice", x.voice(goers, 0, 0), BEYOND);
            due("lead", x.lead(1 << goers, 60), BEYOND);
            x.goer(0, goers, 1);
            due("and one that is", x.ofGoer(goers, 2), goers);
            due("and one that is", x.then(1, goers, 1), 0);
            due("and one that is", x.lead(1 << goers, 60), 0);
        }
    }

    // ---- the light, texts

    private static void theLightBehindIt() {
        of("it is on the BEARING at which it stands, and as many as WIDTH less 1 behind it (up, round), but SHADES");
        ReadingLight x = light(new ReadingLight(), 13, 5, 0);
        x.set(3, 1 << 13 | 1 << 0 | 1 << 7);
        int on = 0;
        for (int b = 0; b < 16; b++) {
            on |= x.ofBearing(b, 0) << b;
        }
        due("13 to 1, but 13 and 0", on, 1 << 14 | 1 << 15 | 1 << 1);
        for (int b = 0; b < 8; b++) {
            x.goer(0, (b + 11) % 16, 5);
        }
        due("those who are there", x.lit(), 1 << 3 | 1 << 4 | 1 << 6);
    }

    private static void namesInOrder() {
        of("What a USE gives with its NAMES in order as a, b, c");
        String[] names = {"dms", "wsi"};
        for (int use = 0; use <= 1; use++) {
            for (int name = 0; name < 3; name++) {
                ReadingLight x = new ReadingLight();
                due("a text", text(x, use, names[use].substring(name, name + 1)), 1);
                for (int place = 0; place < 3; place++) {
                    int[] a = new int[3];
                    a[place] = 1;
                    due("name " + name + " of use " + use + ", place " + place, x.law(use, a[0], a[1], a[2]), place == name ? 1 : 0);
                }
            }
        }
    }

    private static void lawsAreTheirOwn() {
        of("THE TAPE .. is the TEXT of a USE (0, 1), in place of one ahead");
        ReadingLight x = new ReadingLight();
        due("s is a name of both", text(x, 0, "s"), 1);
        due("the other is as at first", x.law(1, 0, 0, 0), 9);
        due("s is a name of both", text(x, 1, "s"), 1);
        due("third of the one", x.law(0, 0, 0, 1), 1);
        due("second of the other", x.law(1, 0, 7, 0), 7);
        due("the longest", text(x, 1, "(w+1)*(s+1)*(i+1)-(w*s*i+w*s+w*i+s*i+w+s+i)+9+0000"), 1);
        due("the longest", x.law(1, 5, 6, 7), 10);
        due("the longest", x.law(1, -100000, 77777, 123456), 10);
        due("a text of one byte", text(x, 1, "i"), 1);
        due("a text of one byte", x.law(1, 1, 2, 3), 3);
    }

    private static void sForGoersAndPage() {
        of("s the rest of STEP by 16");
        ReadingLight x = with(10, 0, 99);
        light(x, 0, 1, 0);
        text(x, 0, "s>7");
        text(x, 1, "s>7");
        due("16 steps, lit in eight", x.steps(16), 0);
        due("16 steps, lit in eight", x.ofGoer(0, 3), 91);
        due("16 steps, eight words", x.count(7), 8);
        due("16 more", x.then(16, 0, 1), 83);
        due("eight behind", x.reads(1), 9);
        due("seven more of them", x.reads(8), 16);
        due("eight more of them", x.reads(9), 25);
    }

    // ---- goers

    private static void aKindBecomesAnother() {
        of("A GOER becomes one of a KIND, with m (km)");
        ReadingLight x = light(with(0, 2, 50), 2, 1, 0);
        text(x, 0, "m>4");
        int[] km = {4, 5, 14, 15, 24, 25, 34, 35, 44, 45, 54, 55, 64, 65};
        int[] comes = {1, 1, 0, 1, 1, 0, 0, 0, 0, 2, 1, -1, 1, 2};
        int[] round = {0, 0, 0, 0, 0, 0, 0, 1, 0, 0, 0, 0, 0, 2};
        int kind = 0;
        for (int i = 0; i < km.length; i++) {
            due("what it was", x.become(0, km[i]), kind);
            kind = km[i] / 10;
            due("whether LIT, by its m, " + km[i], x.ofGoer(0, 4), i % 2);
            due("COMES, " + km[i], x.ofGoer(0, 5), comes[i]);
            due("ROUND, " + km[i], x.ofGoer(0, 6), round[i]);
            due("behind a STEP, " + km[i], x.then(1, 0, 1), 50 - comes[i]);
            due("behind a STEP, " + km[i], x.then(1, 0, 0), 2 + round[i]);
            due("sails, " + km[i], x.voice(0, 0, 7), kind == 1 || kind == 4 ? 21 : 7);
            due("as it was", x.as(0, kind), km[i] % 10);
        }
        due("one of none other", x.as(0, 5), KIND);
        due("its number stays", x.count(0), 1);
        due("where it is stays", x.ofGoer(0, 2), 2);
        due("and how far", x.ofGoer(0, 3), 50);
    }

    private static void aStepInItsOrder() {
        of("A STEP: (1) .. (2) .. (3) .. STEP is 1 more");
        // The page goes by who is IN ahead of (2), by STEP ahead of its end, by the light ahead of (3).
        ReadingLight x = light(with(0, 0, 1, 10, 1, 2, 30, 0, 9), 0, 1, 1);
        x.set(4, 1);
        text(x, 1, "i*10+s");
        due("the first", x.steps(1), 1);
        due("the light was not on the chair", x.count(7), 0);
        due("the cat was lit", x.ofGoer(2, 2), 1);
        due("the ship was not", x.ofGoer(1, 3), 2);
        due("the second", x.steps(1), 1);
        due("one was IN, STEP was 1", x.count(7), 11);
        due("the cat goes on with the light", x.ofGoer(2, 2), 2);
        due("the ship was lit", x.ofGoer(1, 3), 1);
        due("the third", x.steps(1), 1);
        due("off the chair again", x.count(7), 11);
        due("the light", x.count(2), 3);
        due("the cat is with it", x.ofGoer(2, 2), 3);
    }

    private static void stepsAreOneAfterTheOther() {
        of("n (1 to 60) STEPS: as so many of one STEP");
        int[] goers = {4, 0, 60, 14, 3, 30, 25, 5, 52, 31, 1, 15, 48, 2, 35, 50, 7, 44, 67, 15, 58};
        ReadingLight one = light(with(goers), 3, 3, 5);
        ReadingLight many = light(with(goers), 3, 3, 5);
        for (ReadingLight x : new ReadingLight[] {one, many}) {
            text(x, 0, "d+m*s%7<60");
            text(x, 1, "w%7+s+i*3");
        }
        for (int n = 1; n <= 60; n++) {
            for (int g = 0; g < 7; g += 3) {
                due("bearing of " + g + " behind " + n, many.then(n, g, 0), stepped(one, g, g == 0, 2));
                due("distance of " + g + " behind " + n, many.then(n, g, 1), one.ofGoer(g, 3));
            }
        }
        due("who is IN", many.steps(60), one.count(8));
        for (int what = 0; what <= 12; what++) {
            due("count(" + what + ")", many.count(what), one.count(what));
        }
    }

    private static int stepped(ReadingLight x, int g, boolean first, int what) {
        if (first) {
            x.steps(1);
        }
        return x.ofGoer(g, what);
    }

    // ---- what would be

    private static void thoughtsGoByBothLaws() {
        of("(All this is only thought ..): by the TEXTS that are");
        ReadingLight x = light(with(10, 0, 50, 10, 0, 3), 0, 1, 0);
        due("beyond reach", x.then(9, 0, 1), 50);
        due("nine words a step", x.pace(10, 1), 90);
        text(x, 0, "d>9");
        text(x, 1, "5");
        due("within reach", x.then(9, 0, 1), 41);
        due("up to nine", x.then(60, 0, 1), 9);
        due("not so near", x.then(9, 1, 1), 3);
        due("five words a step", x.pace(10, 1), 50);
        due("READS", x.reads(50), 10);
        due("COST", x.cost(0, 10), 50);
        due("FIRST", x.first(0), NONE);
        due("DARK", x.dark(60), 2);
        due("LONG", x.longest(0), 60 - 41);
        due("SHADE", x.shade(0, 20), 1);
        due("SHADE", x.shade(1, 20), 0);
        due("FROM", x.from(0, 60, 1), 9);
        due("ODDS", x.odds(1, 60, 0), 0);
        for (int v = 5; v <= 15; v += 5) {
            x.tell(v);
        }
        due("check", x.check(), 0);
    }

    private static void thoughtsOfThePageBeyondTheLast() {
        of("(All this is only thought, STEP beyond 9999, too.) .. s the rest of STEP by 16");
        ReadingLight x = late(9999);
        light(x, 0, 1, 0);
        x.words(0);
        text(x, 1, "s");
        // 9999 is 15 beyond a sixteenth; the next ones are 0, 1, ..
        due("READS in one", x.reads(15), 1);
        due("READS, 0 and 1 more", x.reads(16), 3);
        due("PACE", x.pace(5, 1), 15 + 0 + 1 + 2 + 3);
        due("COST", x.cost(0, 17), 15 + 120);
        x.tell(15);
        x.tell(15);
        x.tell(16);
        x.tell(18);
        due("check", x.check(), 0);
        due("STATE, all the same", x.steps(1), STATE);
        due("STATE, all the same", x.loose(1), STATE);
        due("STEP", x.count(1), 9999);
        due("no more words", x.count(7), 0);
    }

    private static void paceAndWhoIsIn() {
        of("PACE by n: the TURN with which most WORDS are read behind n STEPS");
        // A page is worth more with the ship IN, which TURN 8 brings in and is back at the chair in two.
        ReadingLight x = light(with(10, 8, 1), 0, 1, 3);
        text(x, 1, "1+50*i");
        due("the ship is IN behind two, and the chair lit again", x.pace(3, 0), 8);
        due("1, 0, 51", x.pace(3, 1), 52);
        due("by two, standing still", x.pace(2, 0), 0);
        due("by two, standing still", x.pace(2, 1), 2);
        due("by 60", x.pace(60, 0), 8);
        due("by 60", x.pace(60, 1), 1 + 29 * 51);
        text(x, 1, "1");
        due("for its own sake, standing still", x.pace(60, 0), 0);
        due("for its own sake, standing still", x.pace(60, 1), 60);
        due("nothing is read", x.count(7), 0);
    }

    private static void leadByTheDark() {
        of("LEAD for a set of GOERS by n: the least TURN with which all of them are IN behind n STEPS");
        ReadingLight x = light(with(20, 0, 2, 10, 4, 1), 0, 1, 9);
        due("the suitor alone: not by TURN 0", x.lead(1, 3), 1);
        due("by two only in the dark", x.lead(1, 2), NONE);
        due("the ship alone", x.lead(2, 2), 4);
        due("both", x.lead(3, 3), 2);
        due("both, by more", x.lead(3, 5), 1);
        x.change(0, 0, 9);
        due("the suitor in the dark: TURN 0", x.lead(1, 2), 0);
        x.set(3, 16);
        due("the ship in the shade", x.lead(2, 60), NONE);
        due("none of them", x.lead(0, 60), 0);
        due("TURN stays", x.count(4), 9);
    }

    private static void firstOfEachKind() {
        of("FIRST: behind how many STEPS (0 to 60) more are IN than now first; who (the least)");
        int[] km = {0, 10, 20, 30, 40, 50, 62};
        int[] lit = {6, 6, NONE, NONE, 3, NONE, 3};
        int[] dark = {6, NONE, 6, NONE, NONE, 6, 3};
        for (int kind = 0; kind <= 6; kind++) {
            ReadingLight x = light(with(30, 0, 0, km[kind], 5, 6), 5, 1, 0);
            due(kind + ", lit", x.first(0), lit[kind]);
            due(kind + ", lit, who", x.first(1), lit[kind] == NONE ? NONE : 1);
            x.set(3, 32);
            due(kind + ", dark", x.first(0), dark[kind]);
            due(kind + ", dark, who", x.first(1), dark[kind] == NONE ? NONE : 1);
        }
    }

    private static void shadeOfThoseWhoGoRound() {
        of("SHADE .. make that it is LIT in none of the next n STEPS (as each begins)");
        ReadingLight x = light(with(30, 3, 5, 65, 3, 50, 62, 4, 19), 3, 2, 1);
        due("a cat", x.shade(0, 20), 8);
        due("a bull that comes near in time", x.shade(1, 20), 8);
        due("a bull that does not yet", x.shade(1, 10), 0);
        due("a bull", x.shade(2, 1), 16);
        x.set(3, 1 << 5 | 1 << 4);
        due("where it would go is no matter", x.shade(0, 20), 8);
        due("SHADED already", x.shade(2, 20), 0);
        due("where they are stays", x.ofBearing(3, 1), 3);
        x.set(3, 65535);
        for (int g = 0; g < 3; g++) {
            due("all are SHADED", x.shade(g, 20), 0);
        }
    }

    private static void stoodByEachKind() {
        of("STOOD: .. where the light may stand now so that it is so");
        ReadingLight x = light(with(10, 5, 21, 0, 5, 21, 65, 5, 21), 9, 1, 0);
        sheet(x, 0, 8, 0, 0, 1);
        due("a ship stays beyond reach", x.stood(0, 0, 0), 0);
        due("a goer comes within it", x.stood(0, 1, 0), 32);
        due("a bull comes, too, but sooner", x.stood(0, 2, 0), 0);
        sheet(x, 1, 16, 0, 1, 0);
        due("and goes off, round", x.stood(1, 2, 0), 32);
        sheet(x, 2, 32, 0, 0, 0);
        due("else it is dark for all", x.stood(2, 0, 1), 16);
        due("else it is dark for all but one", x.stood(2, 1, 1), 15);
        x.set(2, 1);
        due("the light goes on", x.stood(0, 1, 0), 8);
        x.set(3, 32);
        due("SHADED", x.stood(0, 1, 0), 0);
        due("SHADED", x.stood(2, 1, 0), 65535);
        due("what stands there stays", x.count(2), 9);
    }

    private static void longestAtItsEnds() {
        of("LONG for a GOER: the longest row of STEPS .. of the next 60, in which it isn't LIT");
        ReadingLight x = light(with(9, 0, 99), 0, 1, 0);
        text(x, 0, "d>79");
        due("at the end", x.longest(0), 40);
        text(x, 0, "d<80");
        due("at the beginning", x.longest(0), 20);
        text(x, 0, "d>89|d<60");
        due("in the midst", x.longest(0), 30);
        text(x, 0, "d=90|d=55");
        due("the longest of three", x.longest(0), 34);
        x.steps(50);
        due("both are gone by", x.longest(0), 60);
    }

    private static void fromOfEachKind() {
        of("FROM for a GOER by n: the BEARING from which, were it there now, it is nearest behind n STEPS");
        int[] km = {0, 10, 20, 30, 40, 50, 62};
        int[] bearing = {0, 3, 0, 0, 3, 0, 0};
        int[] distance = {5, 8, 5, 9, 7, 5, 1};
        for (int kind = 0; kind <= 6; kind++) {
            ReadingLight x = light(with(km[kind], 3, 9), 3, 1, 1);
            due(kind + ", from", x.from(0, 4, 0), bearing[kind]);
            due(kind + ", distance", x.from(0, 4, 1), distance[kind]);
            due(kind + " stays", x.ofGoer(0, 2), 3);
        }
        ReadingLight x = light(with(20, 7, 9), 14, 8, 0);
        due("a suitor, where the light isn't", x.from(0, 4, 0), 6);
        x.set(3, 4);
        due("a suitor, where a shade is", x.from(0, 4, 0), 2);
    }

    private static void costOfTheChair() {
        of("COST of a BEARING by n: how many WORDS fewer are read in n STEPS, were it SHADED, too");
        ReadingLight x = light(new ReadingLight(), 14, 5, 3);
        x.set(4, 1);
        // The light stands at 14, 1, 4, 7, 10, 13, 0, 3, ..: on the chair at 14, 1, 13, 0.
        for (int b = 0; b < 16; b++) {
            due("of " + b, x.cost(b, 8), b == 1 ? 36 : 0);
        }
        text(x, 1, "w=0*7+1");
        due("a page that goes by what is read", x.cost(1, 8), 0);
        text(x, 1, "(w=0)*7+1");
        due("a page that goes by what is read", x.cost(1, 8), 11);
    }

    private static void oddsOfEachKind() {
        of("ODDS: that a GOER is IN behind n STEPS, the light standing at any BEARING, each just as likely");
        int[] km = {0, 10, 20, 30, 40, 50, 62};
        int[] above = {1, 1, 15, 0, 1, 15, 1};
        int[] below = {1, 16, 16, 1, 16, 16, 1};
        for (int kind = 0; kind <= 6; kind++) {
            ReadingLight x = light(with(km[kind], 3, 1), 9, 1, 0);
            due(kind + ", above", x.odds(0, 1, 0), above[kind]);
            due(kind + ", below", x.odds(0, 1, 1), below[kind]);
        }
        ReadingLight x = light(with(40, 3, 4, 50, 3, 2), 9, 6, 0);
        due("a fleet under six", x.odds(0, 2, 0), 3);
        due("a fleet under six", x.odds(0, 2, 1), 8);
        due("a thief out of six", x.odds(1, 2, 0), 5);
        due("a thief out of six", x.odds(1, 2, 1), 8);
        due("the light stays", x.count(2), 9);
    }

    // ---- draws, voices, sheets, images, what is told

    private static void nightsAreSteps() {
        of("NIGHTS by draws .. Each: a draw: TURN is its rest by 16; then a STEP");
        ReadingLight x = light(with(10, 3, 5, 20, 9, 5, 34, 0, 5), 0, 4, 5);
        ReadingLight y = light(with(10, 3, 5, 20, 9, 5, 34, 0, 5), 0, 4, 5);
        int z = 1;
        int in = 0;
        for (int i = 0; i < 40; i++) {
            z = z * 1103515245 + 12345;
            y.set(2, (z >>> 8) % 16);
            in = y.steps(1);
        }
        due("who is IN", x.loose(40), in);
        due("z", x.count(12), z);
        for (int what = 0; what <= 11; what++) {
            due("count(" + what + ")", x.count(what), y.count(what));
        }
        for (int g = 0; g < 3; g++) {
            due("bearing", x.ofGoer(g, 2), y.ofGoer(g, 2));
            due("distance", x.ofGoer(g, 3), y.ofGoer(g, 3));
        }
    }

    private static void looseAndSteps() {
        of("z is told (1 at first); each makes it ..");
        ReadingLight x = new ReadingLight();
        x.steps(60);
        due("STEPS draw none", x.count(12), 1);
        x.goer(0, 0, 60);
        x.first(0);
        x.odds(0, 60, 0);
        x.pace(60, 0);
        due("nor do thoughts", x.count(12), 1);
        x.loose(2);
        int two = x.count(12);
        due("once and again", x.seed(1), two);
        x.loose(1);
        x.loose(1);
        due("once and again", x.count(12), two);
        due("what z was", x.seed(7), two);
        x.set(0, 0);
        x.loose(5);
        int stands = x.count(2);
        int z = x.count(12);
        x.seed(7);
        x.set(0, 0);
        x.loose(5);
        due("the same z, the same draws", x.count(12), z);
        due("the same z, the same draws", x.count(2), stands);
        due("the TURN of the last", x.count(4), (z >>> 8) % 16);
    }

    private static void voicesOfWhatItHasBecome() {
        of("sails(..) is the BODY of its KIND, or of the next KIND above that has one");
        ReadingLight x = with(0, 0, 0, 0, 0, 0, 3, 0, 0);
        due("a goer tells", x.voice(2, 3, 10), 24 ^ 7);
        x.become(2, 48);
        due("a fleet tells", x.voice(2, 3, 10), (72 ^ 2) - 12);
        due("its first body", x.trace(0), 50);
        x.become(2, 58);
        due("a thief tells", x.voice(2, 3, 10), (26 + 7) ^ 2);
        due("its second body", x.trace(1), 60);
        x.become(2, 68);
        int casts = -(10 - 8) ^ 2;
        due("a bull casts", x.voice(2, 2, 10), casts);
        due("a bull tells", x.voice(2, 3, 10), 24 - (24 ^ casts));
        due("its first body", x.trace(0), 71);
        due("another of its kind, by its own number", x.become(1, 68), 0);
        due("another of its kind, by its own number", x.voice(1, 2, 10), -2 ^ 1);
        due("where it is, is no matter", x.change(2, 1, 50), 0);
        due("where it is, is no matter", x.voice(2, 2, 10), casts);
    }

    private static void traceAndImage() {
        of("THE TRACE: the numbers of BODIES of the latest voice()");
        ReadingLight x = with(40, 0, 9, 60, 0, 9);
        x.voice(0, 3, 1);
        x.image();
        x.voice(1, 2, 1);
        x.restore();
        due("an image has none", x.count(11), 3);
        due("an image has none", x.trace(0), 70);
        x.become(1, 0);
        x.steps(5);
        x.sheet(0, 8, 1);
        due("it stays as it was", x.trace(2), 12);
        due("no fourth", x.trace(3), NONE);
        due("refused", x.voice(2, 0, 0), BEYOND);
        due("it stays", x.trace(1), 40);
        x.voice(1, 2, 1);
        due("what it has become", x.count(11), 1);
        due("what it has become", x.trace(0), 12);
    }

    private static void sheetsAndDistances() {
        of("SHEETS 0 .. 3 are rows");
        ReadingLight x = with(0, 7, 9, 0, 8, 9);
        for (int s = 0; s <= 3; s++) {
            sheet(x, s, s == 3 ? 16 : 8 << s, 10 * s + 1, 10 * s + 2);
        }
        for (int s = 3; s >= 0; s--) {
            due("distances of " + s, x.distances(s), 2);
            due("the first of " + s, x.ofGoer(0, 3), 10 * s + 1);
            due("the second of " + s, x.ofGoer(1, 3), 10 * s + 2);
        }
        due("8 and 16", x.move(0, 0, 1, 0, 1), KIND);
        due("16 and 32", x.move(1, 0, 2, 0, 1), KIND);
        due("16 and 16", x.move(3, 1, 1, 0, 1), 1);
        due("it came", x.distances(1), 2);
        due("it came", x.ofGoer(0, 3), 32);
        due("the next stays", x.ofGoer(1, 3), 12);
        due("where it came from stays", x.distances(3), 2);
        due("where it came from stays", x.ofGoer(0, 3), 31);
        due("judge is of BEARINGS", x.judge(3), 0);
        sheet(x, 2, 32, 7, 8);
        due("judge is of BEARINGS", x.judge(2), -1);
        x.image();
        x.put(2, 1, 9);
        x.restore();
        due("an image has no SHEETS", x.judge(2), 1);
    }

    private static void imageOfLaws() {
        of("All (but SHEETS, THE TRACE, what told() tells, and how often this was done) is kept as an IMAGE");
        ReadingLight x = light(with(14, 3, 9), 3, 1, 0);
        x.image();
        text(x, 0, "0");
        text(x, 1, "50");
        due("dark now", x.lit(), 0);
        due("50 now", x.pace(1, 1) + x.law(1, 0, 0, 0), 50);
        x.restore();
        due("lit as it was", x.lit(), 1);
        due("9 as it was", x.law(1, 0, 0, 0), 9);
        text(x, 0, "m=4");
        x.image();
        x.become(0, 15);
        due("dark by its m", x.lit(), 0);
        x.restore();
        due("lit by its m", x.lit(), 1);
        due("m", x.as(0, 1), 4);
        text(x, 0, "m=5");
        x.restore();
        due("the law of the image, again", x.law(0, 0, 4, 0), 1);
        due("the law of the image, again", x.law(0, 0, 5, 0), 0);
        for (int g = 1; g < 8; g++) {
            x.goer(0, g, g);
        }
        x.restore();
        due("one goer", x.count(0), 1);
        due("a second one is new", x.goer(65, 9, 8), 1);
        due("and is what it is", x.ofGoer(1, 3), 8);
    }

    private static void checkAndSteps() {
        of("The numbers that wait (none do then) are WORDS behind 1, 2, .. STEPS: 0");
        ReadingLight x = light(with(0, 9, 2), 0, 1, 0);
        text(x, 1, "10*i+s+1");
        int[] words = {1, 3, 16, 30, 45};
        for (int v : words) {
            x.tell(v);
        }
        due("they are", x.check(), 0);
        for (int v : words) {
            x.tell(v);
        }
        x.steps(1);
        due("they were, a step ago", x.check(), 1);
        for (int i = 1; i < words.length; i++) {
            x.tell(words[i]);
        }
        due("from now on", x.check(), 0);
        x.tell(3);
        x.tell(17);
        x.tell(30);
        due("the second isn't", x.check(), 2);
        due("the words stay", x.count(7), 1);
        due("STEP stays", x.count(1), 1);
    }

    private static void acts() {
        of("How many acts have answered an ERROR LOW - k");
        ReadingLight x = with(0, 0, 1);
        x.set(9, 0);
        x.ofBearing(16, 0);
        x.lead(2, 0);
        x.trace(0);
        x.first(0);
        x.reads(999);
        x.lead(1, 0);
        x.stood(0, 0, 0);
        x.put(0, 0, 0);
        x.move(0, 0, 0, 0, 0);
        x.distances(0);
        x.judge(0);
        x.restore();
        x.sheet(0, 16, -9);
        x.as(0, 3);
        due("BEYOND", x.told(1), 3);
        due("NONE, but first() found one", x.told(2), 9);
        due("STATE", x.told(3), 1);
        due("FULL", x.told(4), 0);
        due("KIND", x.told(5), 1);
        x.image();
        x.restore();
        due("an image has none of it", x.told(2), 9);
    }
}
