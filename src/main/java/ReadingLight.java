import java.util.Arrays;

/** A light that goes round by steps over bearings, and goers who come in by it, or by the dark. */
public final class ReadingLight {
    private static final int LOW = -1000000000;
    private static final int BEYOND = 1;
    private static final int NONE = 2;
    private static final int STATE = 3;
    private static final int FULL = 4;
    private static final int KIND = 5;

    private static final int BEARINGS = 16;
    private static final int MOST_GOERS = 8;
    private static final int MOST_KM = 69;
    private static final int MOST_DISTANCE = 99;
    private static final int MOST_WORDS = 99999;
    private static final int LAST_STEP = 9999;
    private static final int MOST_AHEAD = 60;
    private static final int MOST_LOOSE = 40;
    private static final int MOST_HIDDEN = 20;
    private static final int TAPE_SIZE = 50;
    private static final int MOST_WAITING = 20;
    private static final int TRACE_SIZE = 40;
    private static final int SHEETS = 4;
    private static final int SHEET_SIZE = 40;

    private static final int REACHES = 0;
    private static final int PAGE = 1;

    private final Scene now;
    private final Scene thought;
    private final Scene kept;
    private int images;
    private final Reader reader = new Reader();
    private final Row tape = reader.tape;
    private final Row keptTape = new Row(TAPE_SIZE);
    private final Row waiting = new Row(MOST_WAITING);
    private final Row keptWaiting = new Row(MOST_WAITING);
    private final Row bodies = new Row(TRACE_SIZE);
    private final Row[] sheets = new Row[SHEETS];
    private final int[] sheetBits = new int[SHEETS];
    private final int[] errors = new int[KIND + 1];

    public ReadingLight() {
        Law reaches = new Law(Law.WITHOUT_REACHES, Law.MOST_REACHES);
        Law page = new Law(Law.WITHOUT_PAGE, Law.MOST_PAGE);
        now = new Scene(reaches, page);
        thought = new Scene(reaches, page);
        kept = new Scene(reaches, page);
        for (int s = 0; s < SHEETS; s++) {
            sheets[s] = new Row(SHEET_SIZE);
        }
    }

    // ---- the light, the chair, goers

    public int set(int what, int v) {
        int least = what == 1 ? 1 : 0;
        if (!within(what, 0, 4) || !within(v, least, mostOfLight(what))) {
            return error(BEYOND);
        }
        int before = ofLight(what);
        switch (what) {
            case 0: now.stands = v; break;
            case 1: now.width = v; break;
            case 2: now.turn = v; break;
            case 3: now.shades = v; break;
            default: now.chair = v; break;
        }
        return before;
    }

    public int ofBearing(int bearing, int what) {
        if (!isBearing(bearing) || !within(what, 0, 1)) {
            return error(BEYOND);
        }
        return what == 0 ? asInt(now.isOn(bearing)) : now.setAt(bearing);
    }

    public int goer(int km, int bearing, int distance) {
        if (!within(km, 0, MOST_KM) || !isBearing(bearing) || !within(distance, 0, MOST_DISTANCE)) {
            return error(BEYOND);
        }
        if (now.goers >= MOST_GOERS) {
            return error(FULL);
        }
        int number = now.goers;
        now.who[number] = newGoer(km, number);
        now.bearing[number] = bearing;
        now.distance[number] = distance;
        now.goers = number + 1;
        return number;
    }

    public int ofGoer(int goer, int what) {
        if (!isGoer(goer) || !within(what, 0, 6)) {
            return error(BEYOND);
        }
        Goer one = now.who[goer];
        switch (what) {
            case 0: return one.kind();
            case 1: return one.m;
            case 2: return now.bearing[goer];
            case 3: return now.distance[goer];
            case 4: return asInt(now.isLit(goer));
            case 5: return one.comes(now.isLit(goer));
            default: return one.round(now.isLit(goer));
        }
    }

    public int change(int goer, int what, int v) {
        int most = what == 0 ? BEARINGS - 1 : MOST_DISTANCE;
        if (!isGoer(goer) || !within(what, 0, 1) || !within(v, 0, most)) {
            return error(BEYOND);
        }
        int[] row = what == 0 ? now.bearing : now.distance;
        int before = row[goer];
        row[goer] = v;
        return before;
    }

    public int words(int v) {
        if (!within(v, 0, MOST_WORDS)) {
            return error(BEYOND);
        }
        int before = now.words;
        now.words = v;
        return before;
    }

    public int become(int goer, int km) {
        if (!isGoer(goer) || !within(km, 0, MOST_KM)) {
            return error(BEYOND);
        }
        int before = now.who[goer].kind();
        now.who[goer] = newGoer(km, goer);
        return before;
    }

    public int as(int goer, int kind) {
        if (!isGoer(goer) || !within(kind, 0, 6)) {
            return error(BEYOND);
        }
        Goer one = now.who[goer];
        return isOfKind(one, kind) ? one.m : error(KIND);
    }

    // ---- texts

    public int feed(long word, int n) {
        if (!within(n, 1, 8)) {
            return error(BEYOND);
        }
        if (tape.size + n > TAPE_SIZE) {
            return error(FULL);
        }
        for (int i = 0; i < n; i++) {
            tape.add((int) (word >>> (8 * i)) & 255);
        }
        return tape.size;
    }

    public int text(int use) {
        if (!isUse(use)) {
            return error(BEYOND);
        }
        boolean whole = reader.read(use == REACHES ? "dms" : "wsi");
        tape.clear();
        if (!whole) {
            return -10 - reader.at;
        }
        if (use == REACHES) {
            now.reaches = new Law(reader.code.copy(), Law.MOST_REACHES);
        } else {
            now.page = new Law(reader.code.copy(), Law.MOST_PAGE);
        }
        return 1;
    }

    public int law(int use, int a, int b, int c) {
        if (!isUse(use)) {
            return error(BEYOND);
        }
        return use == REACHES ? now.reaches.value(a, b, c) : now.page.value(a, b, c);
    }

    // ---- steps

    public int steps(int n) {
        if (!within(n, 1, MOST_AHEAD)) {
            return error(BEYOND);
        }
        if (now.step + n > LAST_STEP) {
            return error(STATE);
        }
        now.passMany(n);
        return now.setOfIn();
    }

    public int loose(int n) {
        if (!within(n, 1, MOST_LOOSE)) {
            return error(BEYOND);
        }
        if (now.step + n > LAST_STEP) {
            return error(STATE);
        }
        for (int i = 0; i < n; i++) {
            now.turn = now.draw() % BEARINGS;
            now.pass();
        }
        return now.setOfIn();
    }

    // ---- what would be

    public int then(int n, int goer, int what) {
        if (!isAhead(n) || !isGoer(goer) || !within(what, 0, 2)) {
            return error(BEYOND);
        }
        thought.copyFrom(now);
        thought.passManyFor(goer, n);
        switch (what) {
            case 0: return thought.bearing[goer];
            case 1: return thought.distance[goer];
            default: return asInt(thought.isLit(goer));
        }
    }

    public int lit() {
        int set = 0;
        for (int g = 0; g < now.goers; g++) {
            set |= asInt(now.isLit(g)) << g;
        }
        return set;
    }

    public int first(int what) {
        if (!within(what, 0, 1)) {
            return error(BEYOND);
        }
        int inNow = now.setOfIn();
        thought.copyFrom(now);
        for (int n = 1; n <= MOST_AHEAD; n++) {
            thought.pass();
            // None who is IN ever leaves, so a set that differs holds more.
            int come = thought.setOfIn() & ~inNow;
            if (come != 0) {
                return what == 0 ? n : leastOf(come);
            }
        }
        return error(NONE);
    }

    public int reads(int v) {
        if (!within(v, 1, 999)) {
            return error(BEYOND);
        }
        thought.copyFrom(now);
        for (int n = 1; n <= MOST_AHEAD; n++) {
            thought.pass();
            if (thought.words - now.words >= v) {
                return n;
            }
        }
        return error(NONE);
    }

    public int pace(int n, int what) {
        if (!isAhead(n) || !within(what, 0, 1)) {
            return error(BEYOND);
        }
        int best = 0;
        int most = -1;
        for (int turn = 0; turn < BEARINGS; turn++) {
            thought.copyFrom(now);
            thought.turn = turn;
            thought.passMany(n);
            int more = thought.words - now.words;
            if (more > most) {
                most = more;
                best = turn;
            }
        }
        return what == 0 ? best : most;
    }

    public int lead(int goers, int n) {
        if (!within(goers, 0, (1 << now.goers) - 1) || !isAhead(n)) {
            return error(BEYOND);
        }
        for (int turn = 0; turn < BEARINGS; turn++) {
            thought.copyFrom(now);
            thought.turn = turn;
            thought.passMany(n);
            if ((goers & ~thought.setOfIn()) == 0) {
                return turn;
            }
        }
        return error(NONE);
    }

    public int shade(int goer, int n) {
        if (!isGoer(goer) || !within(n, 0, MOST_HIDDEN)) {
            return error(BEYOND);
        }
        // None goes round who isn't lit: its own bearing is always enough, and no other helps.
        return staysDark(goer, n) ? 0 : 1 << now.bearing[goer];
    }

    public int stood(int sheet, int goer, int what) {
        if (!isSheet(sheet) || !isGoer(goer) || !within(what, 0, 1)) {
            return error(BEYOND);
        }
        if (isMissing(sheet)) {
            return error(NONE);
        }
        int set = 0;
        for (int b = 0; b < BEARINGS; b++) {
            if (wasSeen(sheets[sheet], goer, b)) {
                set |= 1 << b;
            }
        }
        return what == 0 ? set : Integer.bitCount(set);
    }

    public int dark(int n) {
        if (!isAhead(n)) {
            return error(BEYOND);
        }
        int set = 0;
        for (int g = 0; g < now.goers; g++) {
            set |= asInt(staysDark(g, n)) << g;
        }
        return set;
    }

    public int longest(int goer) {
        if (!isGoer(goer)) {
            return error(BEYOND);
        }
        thought.copyFrom(now);
        int most = 0;
        int row = 0;
        for (int i = 0; i < MOST_AHEAD; i++) {
            row = thought.isLit(goer) ? 0 : row + 1;
            most = Math.max(most, row);
            thought.passFor(goer);
        }
        return most;
    }

    public int from(int goer, int n, int what) {
        if (!isGoer(goer) || !isAhead(n) || !within(what, 0, 1)) {
            return error(BEYOND);
        }
        int best = 0;
        int nearest = MOST_DISTANCE + 1;
        for (int b = 0; b < BEARINGS; b++) {
            thought.copyFrom(now);
            thought.bearing[goer] = b;
            thought.passManyFor(goer, n);
            if (thought.distance[goer] < nearest) {
                nearest = thought.distance[goer];
                best = b;
            }
        }
        return what == 0 ? best : nearest;
    }

    public int cost(int bearing, int n) {
        if (!isBearing(bearing) || !isAhead(n)) {
            return error(BEYOND);
        }
        return wordsBehind(n, 0) - wordsBehind(n, 1 << bearing);
    }

    public int odds(int goer, int n, int part) {
        if (!isGoer(goer) || !isAhead(n) || !within(part, 0, 1)) {
            return error(BEYOND);
        }
        int above = 0;
        for (int b = 0; b < BEARINGS; b++) {
            thought.copyFrom(now);
            thought.stands = b;
            thought.passManyFor(goer, n);
            above += asInt(thought.isIn(goer));
        }
        int shared = sharedWithBearings(above);
        return part == 0 ? above / shared : BEARINGS / shared;
    }

    // ---- draws, voices, sheets, images, what is told

    public int seed(int v) {
        int before = now.z;
        now.z = v;
        return before;
    }

    public int voice(int goer, int act, int x) {
        if (!isGoer(goer) || !within(act, 0, 3)) {
            return error(BEYOND);
        }
        Goer one = now.who[goer];
        bodies.clear();
        switch (act) {
            case 0: return one.sails(x);
            case 1: return one.creeps(x);
            case 2: return one.casts(x);
            default: return one.tells(x);
        }
    }

    public int trace(int i) {
        return bodies.has(i) ? bodies.numbers[i] : error(NONE);
    }

    public int sheet(int sheet, int bits, int n) {
        if (!isSheet(sheet) || (bits != 0 && bits != 8 && bits != 16 && bits != 32)) {
            return error(BEYOND);
        }
        if (bits != 0 && n < 0) {
            return error(STATE);
        }
        if (bits != 0 && n > SHEET_SIZE) {
            return error(BEYOND);
        }
        sheetBits[sheet] = bits;
        sheets[sheet].becomeZeros(bits == 0 ? 0 : n);
        return 1;
    }

    public int put(int sheet, int i, int v) {
        if (!isSheet(sheet)) {
            return error(BEYOND);
        }
        if (isMissing(sheet)) {
            return error(NONE);
        }
        if (!sheets[sheet].has(i)) {
            return error(BEYOND);
        }
        sheets[sheet].numbers[i] = lowestBits(v, sheetBits[sheet]);
        return 1;
    }

    public int move(int sheet, int i, int other, int j, int n) {
        if (!isSheet(sheet) || !isSheet(other)) {
            return error(BEYOND);
        }
        if (isMissing(sheet) || isMissing(other)) {
            return error(NONE);
        }
        if (sheetBits[sheet] != sheetBits[other]) {
            return error(KIND);
        }
        if (!sheets[sheet].hasRun(i, n) || !sheets[other].hasRun(j, n)) {
            return error(BEYOND);
        }
        System.arraycopy(sheets[sheet].numbers, i, sheets[other].numbers, j, n);
        return n;
    }

    public int distances(int sheet) {
        if (!isSheet(sheet)) {
            return error(BEYOND);
        }
        if (isMissing(sheet)) {
            return error(NONE);
        }
        Row row = sheets[sheet];
        int most = Math.min(row.size, now.goers);
        for (int g = 0; g < most; g++) {
            if (!within(row.numbers[g], 0, MOST_DISTANCE)) {
                return g;
            }
            now.distance[g] = row.numbers[g];
        }
        return most;
    }

    public int judge(int sheet) {
        if (!isSheet(sheet)) {
            return error(BEYOND);
        }
        if (isMissing(sheet)) {
            return error(NONE);
        }
        Row row = sheets[sheet];
        int most = Math.min(row.size, now.goers);
        for (int g = 0; g < most; g++) {
            if (row.numbers[g] != now.bearing[g]) {
                return g;
            }
        }
        return row.size == now.goers ? -1 : most;
    }

    public int image() {
        kept.copyFrom(now);
        keptTape.copyFrom(tape);
        keptWaiting.copyFrom(waiting);
        images++;
        return images;
    }

    public int restore() {
        if (images == 0) {
            return error(NONE);
        }
        now.copyFrom(kept);
        tape.copyFrom(keptTape);
        waiting.copyFrom(keptWaiting);
        return now.step;
    }

    public int tell(int v) {
        return waiting.add(v) ? waiting.size : error(FULL);
    }

    public int check() {
        int wrong = firstUntrue();
        waiting.clear();
        return wrong + 1;
    }

    public int count(int what) {
        switch (what) {
            case 0: return now.goers;
            case 1: return now.step;
            case 2: return ofLight(0);
            case 3: return ofLight(1);
            case 4: return ofLight(2);
            case 5: return ofLight(3);
            case 6: return ofLight(4);
            case 7: return now.words;
            case 8: return now.setOfIn();
            case 9: return tape.size;
            case 10: return waiting.size;
            case 11: return bodies.size;
            case 12: return now.z;
            default: return error(BEYOND);
        }
    }

    public int told(int k) {
        return within(k, BEYOND, KIND) ? errors[k] : error(BEYOND);
    }

    // ---- what the acts share

    private int error(int k) {
        errors[k]++;
        return LOW - k;
    }

    private static boolean within(int v, int least, int most) {
        return v >= least && v <= most;
    }

    private static int asInt(boolean is) {
        return is ? 1 : 0;
    }

    private static boolean isBearing(int v) {
        return within(v, 0, BEARINGS - 1);
    }

    private static boolean isAhead(int n) {
        return within(n, 0, MOST_AHEAD);
    }

    private static boolean isUse(int use) {
        return within(use, REACHES, PAGE);
    }

    private static boolean isSheet(int sheet) {
        return within(sheet, 0, SHEETS - 1);
    }

    private boolean isGoer(int goer) {
        return within(goer, 0, now.goers - 1);
    }

    private boolean isMissing(int sheet) {
        return sheetBits[sheet] == 0;
    }

    private static int mostOfLight(int what) {
        switch (what) {
            case 1: return 8;
            case 3: return (1 << BEARINGS) - 1;
            default: return BEARINGS - 1;
        }
    }

    private int ofLight(int what) {
        switch (what) {
            case 0: return now.stands;
            case 1: return now.width;
            case 2: return now.turn;
            case 3: return now.shades;
            default: return now.chair;
        }
    }

    private Goer newGoer(int km, int number) {
        int m = km % 10;
        switch (km / 10) {
            case 1: return new Ship(number, m, bodies);
            case 2: return new Suitor(number, m, bodies);
            case 3: return new Cat(number, m, bodies);
            case 4: return new Fleet(number, m, bodies);
            case 5: return new Thief(number, m, bodies);
            case 6: return new Bull(number, m, bodies);
            default: return new Goer(number, m, bodies);
        }
    }

    private static boolean isOfKind(Goer one, int kind) {
        switch (kind) {
            case 1: return one instanceof Ship;
            case 2: return one instanceof Suitor;
            case 3: return one instanceof Cat;
            case 4: return one instanceof Fleet;
            case 5: return one instanceof Thief;
            case 6: return one instanceof Bull;
            default: return true;
        }
    }

    private static int lowestBits(int v, int bits) {
        switch (bits) {
            case 8: return (byte) v;
            case 16: return (short) v;
            default: return v;
        }
    }

    /** Whether a goer is lit in none of the next n steps. */
    private boolean staysDark(int goer, int n) {
        thought.copyFrom(now);
        for (int i = 0; i < n; i++) {
            if (thought.isLit(goer)) {
                return false;
            }
            thought.passFor(goer);
        }
        return true;
    }

    /** Whether the light, standing at a bearing now, would show the goer as the row tells. */
    private boolean wasSeen(Row row, int goer, int stands) {
        thought.copyFrom(now);
        thought.stands = stands;
        for (int i = 0; i < row.size; i++) {
            if (row.numbers[i] != asInt(thought.isLit(goer))) {
                return false;
            }
            thought.passFor(goer);
        }
        return true;
    }

    private int wordsBehind(int n, int moreShades) {
        thought.copyFrom(now);
        thought.shades |= moreShades;
        thought.passMany(n);
        return thought.words;
    }

    /** The place of the first waiting number that is not what WORDS will be, or -1. */
    private int firstUntrue() {
        thought.copyFrom(now);
        for (int i = 0; i < waiting.size; i++) {
            thought.pass();
            if (thought.words != waiting.numbers[i]) {
                return i;
            }
        }
        return -1;
    }

    private static int leastOf(int set) {
        for (int g = 0; g < MOST_GOERS; g++) {
            if ((set >> g & 1) != 0) {
                return g;
            }
        }
        return MOST_GOERS;
    }

    /** The greatest number that divides both; 16 is all twos, so the lowest bit of the other tells it. */
    private static int sharedWithBearings(int above) {
        return above == 0 ? BEARINGS : above & -above;
    }

    /** All that goes by steps. It is copied whole for what is only thought, and for images. */
    private static final class Scene {
        int stands;
        int width = 1;
        int turn = 1;
        int shades;
        int step;
        int chair;
        int words;
        int z = 1;
        int goers;
        final Goer[] who = new Goer[MOST_GOERS];
        final int[] bearing = new int[MOST_GOERS];
        final int[] distance = new int[MOST_GOERS];
        Law reaches;
        Law page;

        Scene(Law reaches, Law page) {
            this.reaches = reaches;
            this.page = page;
        }

        void copyFrom(Scene other) {
            stands = other.stands;
            width = other.width;
            turn = other.turn;
            shades = other.shades;
            step = other.step;
            chair = other.chair;
            words = other.words;
            z = other.z;
            goers = other.goers;
            // Goers and laws never change in themselves, so both may hold the same ones.
            for (int g = 0; g < MOST_GOERS; g++) {
                who[g] = other.who[g];
            }
            System.arraycopy(other.bearing, 0, bearing, 0, MOST_GOERS);
            System.arraycopy(other.distance, 0, distance, 0, MOST_GOERS);
            reaches = other.reaches;
            page = other.page;
        }

        boolean isOn(int b) {
            int behind = (b - stands) & (BEARINGS - 1);
            return behind < width && (shades >> b & 1) == 0;
        }

        boolean isLit(int g) {
            return isOn(bearing[g]) && reaches.value(distance[g], who[g].m, step % 16) != 0;
        }

        boolean isIn(int g) {
            return distance[g] == 0;
        }

        int setOfIn() {
            int set = 0;
            for (int g = 0; g < goers; g++) {
                set |= asInt(isIn(g)) << g;
            }
            return set;
        }

        int setAt(int b) {
            int set = 0;
            for (int g = 0; g < goers; g++) {
                set |= asInt(bearing[g] == b) << g;
            }
            return set;
        }

        int draw() {
            z = z * 1103515245 + 12345;
            return z >>> 8;
        }

        void passMany(int n) {
            for (int i = 0; i < n; i++) {
                pass();
            }
        }

        void pass() {
            readPage();
            for (int g = 0; g < goers; g++) {
                moveGoer(g);
            }
            turnLight();
        }

        void passManyFor(int g, int n) {
            for (int i = 0; i < n; i++) {
                passFor(g);
            }
        }

        /** A step as one goer has it: nothing but the light touches it, so the rest may wait. */
        void passFor(int g) {
            moveGoer(g);
            turnLight();
        }

        private void readPage() {
            if (isOn(chair)) {
                int read = page.value(words % 100, step % 16, Integer.bitCount(setOfIn()));
                words = Math.min(words + read, MOST_WORDS);
            }
        }

        private void moveGoer(int g) {
            if (isIn(g)) {
                return;
            }
            boolean lit = isLit(g);
            int nearer = distance[g] - who[g].comes(lit);
            distance[g] = Math.max(0, Math.min(nearer, MOST_DISTANCE));
            bearing[g] = (bearing[g] + who[g].round(lit)) & (BEARINGS - 1);
        }

        private void turnLight() {
            stands = (stands + turn) & (BEARINGS - 1);
            step++;
        }
    }

    /** A row of numbers that never grows beyond the room it was made with. */
    private static final class Row {
        final int[] numbers;
        int size;

        Row(int room) {
            numbers = new int[room];
        }

        boolean has(int i) {
            return i >= 0 && i < size;
        }

        boolean hasRun(int i, int n) {
            return i >= 0 && n >= 0 && n <= size && i <= size - n;
        }

        boolean add(int v) {
            if (size >= numbers.length) {
                return false;
            }
            numbers[size] = v;
            size++;
            return true;
        }

        /** The latest number, which goes; 0 if there is none. */
        int take() {
            if (size <= 0) {
                return 0;
            }
            size--;
            return numbers[size];
        }

        void clear() {
            size = 0;
        }

        void becomeZeros(int n) {
            clear();
            for (int i = 0; i < n; i++) {
                add(0);
            }
        }

        int[] copy() {
            return Arrays.copyOf(numbers, size);
        }

        void copyFrom(Row other) {
            clear();
            for (int i = 0; i < other.size; i++) {
                add(other.numbers[i]);
            }
        }
    }

    /**
     * A text, worked out from a row in which each sign follows what it joins: numbers stand as
     * they are, the three names as -1, -2, -3, and each other sign as less than 0 by its byte.
     */
    private static final class Law {
        static final int MOST_REACHES = 1;
        static final int MOST_PAGE = 99;
        static final int[] WITHOUT_REACHES = {-1, 20, -'<'};
        static final int[] WITHOUT_PAGE = {9};

        private static final int LAST_NAME = -3;

        private final int[] code;
        private final int most;
        private final Row stack;

        Law(int[] code, int most) {
            this.code = code;
            this.most = most;
            // No sign leaves more than one number behind.
            this.stack = new Row(code.length);
        }

        int value(int a, int b, int c) {
            stack.clear();
            for (int i = 0; i < code.length; i++) {
                int sign = code[i];
                if (sign >= LAST_NAME) {
                    stack.add(sign >= 0 ? sign : named(sign, a, b, c));
                } else if (sign == -'!') {
                    stack.add(asInt(stack.take() == 0));
                } else {
                    int right = stack.take();
                    int left = stack.take();
                    stack.add(joined(-sign, left, right));
                }
            }
            return Math.max(0, Math.min(stack.take(), most));
        }

        private static int named(int name, int a, int b, int c) {
            if (name == -1) {
                return a;
            }
            return name == -2 ? b : c;
        }

        private static int joined(int sign, int left, int right) {
            switch (sign) {
                case '|': return left != 0 || right != 0 ? 1 : 0;
                case '&': return left != 0 && right != 0 ? 1 : 0;
                case '<': return left < right ? 1 : 0;
                case '=': return left == right ? 1 : 0;
                case '>': return left > right ? 1 : 0;
                case '+': return left + right;
                case '-': return left - right;
                case '*': return left * right;
                case '/': return right == 0 ? 0 : left / right;
                default: return right == 0 ? 0 : left % right;
            }
        }
    }

    /** Reads the tape by the grammar of texts into a law's row. */
    private static final class Reader {
        private static final int COMPARISONS = 2;
        private static final int UNITS = 5;
        private static final int MOST_OPEN = 5;
        private static final int MOST_DIGITS = 4;

        private final Row tape = new Row(TAPE_SIZE);
        private final Row code = new Row(TAPE_SIZE);
        private String names = "";
        private int at;
        private boolean broken;

        /** Whether the tape is a text; if not, at is the place of its fault. */
        boolean read(String namesOfUse) {
            names = namesOfUse;
            at = 0;
            broken = false;
            code.clear();
            chain(0, 0);
            return !broken && at == tape.size;
        }

        /** The byte that is next, or -1 at the end. */
        private int next() {
            return tape.has(at) ? tape.numbers[at] : -1;
        }

        /** Links of the next level, joined by this level's signs. */
        private void chain(int level, int open) {
            if (level >= UNITS) {
                unit(open);
                return;
            }
            chain(level + 1, open);
            int most = level == COMPARISONS ? 1 : TAPE_SIZE;
            for (int i = 0; i < most && !broken && levelOf(next()) == level; i++) {
                int sign = next();
                at++;
                chain(level + 1, open);
                code.add(-sign);
            }
        }

        private static int levelOf(int sign) {
            switch (sign) {
                case '|': return 0;
                case '&': return 1;
                case '<': case '=': case '>': return COMPARISONS;
                case '+': case '-': return 3;
                case '*': case '/': case '%': return 4;
                default: return -1;
            }
        }

        private void unit(int open) {
            int sign = next();
            int name = sign < 0 ? -1 : names.indexOf((char) sign);
            if (isDigit(sign)) {
                number();
            } else if (name >= 0) {
                at++;
                code.add(-1 - name);
            } else if (sign == '!' && open < MOST_OPEN) {
                at++;
                unit(open + 1);
                code.add(-sign);
            } else if (sign == '(' && open < MOST_OPEN) {
                at++;
                chain(0, open + 1);
                close();
            } else {
                broken = true;
            }
        }

        private void close() {
            if (!broken && next() == ')') {
                at++;
            } else {
                broken = true;
            }
        }

        private void number() {
            int v = 0;
            for (int i = 0; i < MOST_DIGITS && isDigit(next()); i++) {
                v = v * 10 + next() - '0';
                at++;
            }
            code.add(v);
        }

        private static boolean isDigit(int sign) {
            return sign >= '0' && sign <= '9';
        }
    }

    /** One of the goers, by its kind. It never changes: one that becomes another is made anew. */
    private static class Goer {
        final int number;
        final int m;
        final Row begun;

        Goer(int number, int m, Row begun) {
            this.number = number;
            this.m = m;
            this.begun = begun;
        }

        int kind() {
            return 0;
        }

        int comes(boolean lit) {
            return 1;
        }

        int round(boolean lit) {
            return 0;
        }

        int sails(int x) {
            begun.add(10);
            return x + number;
        }

        int creeps(int x) {
            begun.add(11);
            return sails(x) * 2;
        }

        int casts(int x) {
            begun.add(12);
            return x - m;
        }

        int tells(int x) {
            begun.add(13);
            return creeps(x) ^ casts(x);
        }
    }

    private static class Ship extends Goer {
        Ship(int number, int m, Row begun) {
            super(number, m, begun);
        }

        int kind() {
            return 1;
        }

        int comes(boolean lit) {
            return lit ? 1 : 0;
        }

        int sails(int x) {
            begun.add(20);
            return super.sails(x) * 3;
        }
    }

    private static class Suitor extends Goer {
        Suitor(int number, int m, Row begun) {
            super(number, m, begun);
        }

        int kind() {
            return 2;
        }

        int comes(boolean lit) {
            return lit ? 0 : 1;
        }

        int creeps(int x) {
            begun.add(30);
            return super.creeps(x) - casts(1);
        }
    }

    private static class Cat extends Goer {
        Cat(int number, int m, Row begun) {
            super(number, m, begun);
        }

        int kind() {
            return 3;
        }

        int comes(boolean lit) {
            return 0;
        }

        int round(boolean lit) {
            return lit ? 1 : 0;
        }

        int casts(int x) {
            begun.add(40);
            return -super.casts(x);
        }
    }

    private static final class Fleet extends Ship {
        Fleet(int number, int m, Row begun) {
            super(number, m, begun);
        }

        int kind() {
            return 4;
        }

        int comes(boolean lit) {
            return super.comes(lit) * 2;
        }

        int tells(int x) {
            begun.add(50);
            return super.tells(x) - sails(2);
        }
    }

    private static final class Thief extends Suitor {
        Thief(int number, int m, Row begun) {
            super(number, m, begun);
        }

        int kind() {
            return 5;
        }

        int comes(boolean lit) {
            return super.comes(lit) - asInt(lit);
        }

        int creeps(int x) {
            begun.add(60);
            return super.creeps(x + 1);
        }
    }

    private static final class Bull extends Cat {
        Bull(int number, int m, Row begun) {
            super(number, m, begun);
        }

        int kind() {
            return 6;
        }

        int comes(boolean lit) {
            return m % 3;
        }

        int round(boolean lit) {
            return super.round(lit) * 2;
        }

        int casts(int x) {
            begun.add(70);
            return super.casts(x) ^ number;
        }

        int tells(int x) {
            begun.add(71);
            return creeps(x) - super.tells(x);
        }
    }
}
