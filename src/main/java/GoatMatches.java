import java.util.Arrays;

/**
 * Betrothed by goats: a gorge of cells, flocks drawn over it by a formula, and the families
 * that are matched when their herds have mixed often enough.
 *
 * All rows are made in the constructors; no call makes an object.
 */
public final class GoatMatches {
    public static final int NONE = -1;

    private static final int NO_SUCH = -2;
    private static final int NO_PULL = -1000000;
    private static final int NO_LAW = -100;
    private static final int MOST_BYTES = 1600;
    private static final int BYTES_A_FEED = 20;
    private static final int MOST_FLOCKS = 6;
    private static final int MOST_CELLS = 25;
    private static final int MOST_GRASS = 9;
    private static final int MOST_DAYS = 999;
    private static final int MOST_AHEAD = 60;
    private static final int MOST_TRICK_DAYS = 20;
    private static final int MOST_TRICK_EVENINGS = 9;
    private static final int MOST_EVENINGS = 20;
    private static final int MOST_ACTS = 40;
    private static final int MOST_SEEN = 30;
    private static final int MOST_SEEN_DAYS = 9;
    private static final int MOST_BY = 1000;
    private static final int MOST_TIME = 100000;
    private static final int SALT_DAYS = 9;
    private static final int BOXES = 3;
    private static final int WAYS = 4;

    // The kinds of tokens: a reserved word's is its number in WORDS, a sign's is its own byte.
    private static final String WORDS = "gorge by green grass flock bride groom at size wants feud pull rain of evenings draw or and not salt others home here day ";
    private static final String SIGNS = ";()<>=+-*/%";
    private static final int RESERVED = 24;
    private static final int GORGE = 0;
    private static final int BY = 1;
    private static final int GREEN = 2;
    private static final int GRASS = 3;
    private static final int FLOCK = 4;
    private static final int BRIDE = 5;
    private static final int GROOM = 6;
    private static final int AT = 7;
    private static final int SIZE = 8;
    private static final int WANTS = 9;
    private static final int FEUD = 10;
    private static final int PULL = 11;
    private static final int RAIN = 12;
    private static final int OF = 13;
    private static final int EVENINGS = 14;
    private static final int DRAW = 15;
    private static final int OR = 16;
    private static final int AND = 17;
    private static final int NOT = 18;
    private static final int SALT = 19;
    private static final int OTHERS = 20;
    private static final int HOME = 21;
    private static final int HERE = 22;
    private static final int DAY = 23;
    private static final int NAME = 24;
    private static final int NUMBER = 25;
    private static final int END = 26;
    private static final int NO_TOKEN = 27;

    private Gorge told = new Gorge();
    private Gorge spare = new Gorge();
    private Herds now = new Herds();
    private final Tape tape = new Tape();
    private final Reader reader = new Reader(tape, spare);
    private final Walk walk = new Walk(told);
    private final Foresight foresight = new Foresight(walk);
    private final Past past = new Past();
    private final Pairs pairs = new Pairs(told);
    private final Sights sights = new Sights();
    private final Herds[] boxes = new Herds[BOXES];
    private final int[] lying = new int[MOST_FLOCKS];
    private int boxed = 0;
    private int lie = 0;

    public GoatMatches() {
        for (int box = 0; box < BOXES; box++) {
            boxes[box] = new Herds();
        }
        settle();
    }

    private void settle() {
        walk.gorge = told;
        now.begin(told);
        past.forget();
        sights.count = 0;
        boxed = 0;
        lie = 0;
    }

    public int feed(int a, int b, int c, int d, int e) {
        if (tape.length > MOST_BYTES - BYTES_A_FEED) {
            return NONE;
        }
        tape.add(a);
        tape.add(b);
        tape.add(c);
        tape.add(d);
        tape.add(e);
        return tape.length;
    }

    public int end(int n) {
        if (n < 0 || n > tape.length) {
            return NONE;
        }
        tape.length = n;
        return n;
    }

    public int gorge() {
        boolean sound = reader.reads(spare);
        tape.length = 0;
        if (!sound) {
            return NONE;
        }
        Gorge former = told;
        told = spare;
        spare = former;
        settle();
        return told.flocks;
    }

    public int fault(int what) {
        if (what == 0) {
            return reader.fault;
        }
        return what == 1 ? reader.place : NONE;
    }

    public int flock(int flock, int what) {
        if (!told.hasFlock(flock)) {
            return NO_SUCH;
        }
        switch (what) {
            case 0:
                return now.at[flock];
            case 1:
                return told.side[flock];
            case 2:
                return told.size[flock];
            case 3:
                return now.penned >> flock & 1;
            case 4:
                return now.mate[flock];
            case 5:
                return told.home[flock];
            default:
                return NO_SUCH;
        }
    }

    public int ground(int cell, int what) {
        if (!told.hasCell(cell)) {
            return NONE;
        }
        switch (what) {
            case 0:
                return now.grass[cell];
            case 1:
                return now.salt[cell];
            case 2:
                return now.herdsIn(cell, told.flocks);
            default:
                return NONE;
        }
    }

    public int pull(int flock, int cell) {
        if (!told.hasFlock(flock) || !told.hasCell(cell)) {
            return NO_PULL;
        }
        walk.count(now);
        return walk.worth(now, flock, cell);
    }

    public int mixed(int flock, int other) {
        return told.canMix(flock, other) ? now.mixedOf(flock, other) : NONE;
    }

    public int wants(int flock, int other) {
        if (!told.hasFlock(flock) || !told.hasFlock(other)) {
            return NO_SUCH;
        }
        return told.wanted(flock, other);
    }

    public int grass() {
        return now.allGrass();
    }

    public int matched() {
        return told.flocks - Integer.bitCount(now.single(told.flocks));
    }

    public int salt(int cell) {
        if (!told.hasCell(cell)) {
            return NONE;
        }
        past.keep(now);
        int was = now.salt[cell];
        now.salt[cell] = SALT_DAYS;
        return was;
    }

    public int pen(int flock) {
        if (!told.hasFlock(flock)) {
            return NONE;
        }
        past.keep(now);
        now.penned ^= 1 << flock;
        return now.penned >> flock & 1;
    }

    public int drive(int flock, int cell) {
        if (!told.hasFlock(flock) || !told.hasCell(cell) || now.isPenned(flock)) {
            return NONE;
        }
        int was = now.at[flock];
        if (told.apart(was, cell) != 1) {
            return NONE;
        }
        past.keep(now);
        now.at[flock] = cell;
        return was;
    }

    public int breaks(int flock) {
        if (!told.hasFlock(flock) || now.mate[flock] == NONE) {
            return NONE;
        }
        past.keep(now);
        return now.part(flock);
    }

    public int day() {
        if (now.day >= MOST_DAYS) {
            return NONE;
        }
        past.keep(now);
        return walk.pass(now, told.evenings);
    }

    public boolean undo() {
        if (past.done == 0) {
            return false;
        }
        now = past.takeBack(now);
        return true;
    }

    public boolean redo() {
        if (past.undone == 0) {
            return false;
        }
        now = past.doAgain(now);
        return true;
    }

    public int will(int flock, int n) {
        if (!told.hasFlock(flock) || !isAhead(n)) {
            return NONE;
        }
        return foresight.behind(now, n).at[flock];
    }

    public int mixes(int flock, int other, int n) {
        if (!told.canMix(flock, other) || !isAhead(n)) {
            return NONE;
        }
        return foresight.behind(now, n).mixedOf(flock, other) - now.mixedOf(flock, other);
    }

    public int weds(int flock) {
        return told.hasFlock(flock) ? foresight.daysToMatch(now, flock) : NONE;
    }

    public int trick(int flock, int other, int evenings, int days, int what) {
        if (!told.canMix(flock, other) || !isTrick(days, what)) {
            return NONE;
        }
        if (evenings < 1 || evenings > MOST_TRICK_EVENINGS) {
            return NONE;
        }
        foresight.askOf(flock, other, evenings, days);
        return countOrSet(foresight.leastSalt(now), what);
    }

    public int hold(int flock, int other, int days, int what) {
        if (!told.canMix(flock, other) || !isTrick(days, what)) {
            return NONE;
        }
        foresight.askOf(flock, other, 1, days);
        return countOrSet(foresight.leastPens(now), what);
    }

    public int lead(int flock, int other, int days, int what) {
        if (!told.canMix(flock, other) || !isTrick(days, what) || now.isPenned(flock)) {
            return NONE;
        }
        foresight.askOf(flock, other, 1, days);
        int cell = foresight.bestDrive(now);
        return what == 0 ? cell : foresight.most;
    }

    public int bachelors(int n) {
        return isAhead(n) ? foresight.behind(now, n).single(told.flocks) : NONE;
    }

    public int dear() {
        pairs.search(told);
        lay(pairs.dearest);
        return pairs.dear;
    }

    public int law(int n) {
        if (n < 1 || n > MOST_EVENINGS) {
            return NO_LAW;
        }
        return foresight.singleAtLast(now, told.evenings) - foresight.singleAtLast(now, n);
    }

    public int calm() {
        pairs.search(told);
        lay(pairs.first);
        return pairs.calm;
    }

    public int reach(int flock) {
        if (!told.hasFlock(flock)) {
            return NONE;
        }
        pairs.search(told);
        return pairs.reached[flock];
    }

    /**
     * Two neighbours in the order are best swapped when hours for a loss of 1 are more for the
     * one ahead. So the best orders are just those in which these never fall.
     */
    public int wells() {
        for (int flock = 0; flock < told.flocks; flock++) {
            int place = flock;
            while (place > 0 && hoursForLoss(lying[place - 1]) > hoursForLoss(flock)) {
                lying[place] = lying[place - 1];
                place--;
            }
            lying[place] = flock;
        }
        lie = told.flocks;
        return lostAtWells();
    }

    private int hoursForLoss(int flock) {
        return now.mate[flock] == NONE ? 1 : told.size[flock];
    }

    private int lostAtWells() {
        int hours = 0;
        int lost = 0;
        for (int place = 0; place < lie; place++) {
            int flock = lying[place];
            int size = told.size[flock];
            lost += hours * (now.mate[flock] == NONE ? size : 1);
            hours += size;
        }
        return lost;
    }

    public int bare() {
        return foresight.daysToBare(now);
    }

    public int lies(int i) {
        return i >= 0 && i < lie ? lying[i] : NO_SUCH;
    }

    public int seen(int days, int flock, int cell, boolean is) {
        if (days < 0 || days > MOST_SEEN_DAYS || !told.hasFlock(flock) || !told.hasCell(cell)) {
            return NONE;
        }
        return sights.tell(days, flock, cell, is);
    }

    public boolean untell(int seen) {
        return sights.takeBack(seen);
    }

    public int later(int by) {
        if (by < 0 || by > MOST_BY || sights.time + by > MOST_TIME) {
            return NONE;
        }
        sights.time += by;
        return sights.time;
    }

    public int ledges(int k) {
        return foresight.saltedAtNight(now, sights, k);
    }

    public int ask(int n, int what, int k) {
        if (n < 0 || n > MOST_SEEN_DAYS || what < 0 || what > 1 || told.flocks == 0) {
            return NONE;
        }
        int cells = foresight.saltedAtNight(now, sights, k);
        if (cells == 0) {
            return NONE;
        }
        int flock = foresight.nextToWatch(now, cells, n);
        return what == 0 ? flock : foresight.most;
    }

    public int image(int box) {
        if (box < 0 || box >= BOXES) {
            return NONE;
        }
        boxes[box].copy(now);
        boxed |= 1 << box;
        return now.day;
    }

    public int back(int box) {
        if (box < 0 || box >= BOXES || (boxed >> box & 1) == 0) {
            return NONE;
        }
        now.copy(boxes[box]);
        past.forget();
        return now.day;
    }

    public int about(int what) {
        switch (what) {
            case 0:
                return told.flocks;
            case 1:
                return told.columns;
            case 2:
                return told.rows;
            case 3:
                return told.feuds;
            case 4:
                return told.evenings;
            case 5:
                return now.day;
            case 6:
                return now.seed;
            case 7:
                return now.penned;
            default:
                return aboutBooks(what);
        }
    }

    private int aboutBooks(int what) {
        switch (what) {
            case 8:
                return past.done;
            case 9:
                return past.undone;
            case 10:
                return sights.count;
            case 11:
                return sights.time;
            case 12:
                return tape.length;
            case 13:
                return told.units;
            case 14:
                return lie;
            default:
                return NONE;
        }
    }

    private void lay(int[] with) {
        lie = told.flocks;
        System.arraycopy(with, 0, lying, 0, lie);
    }

    private static boolean isAhead(int n) {
        return n >= 0 && n <= MOST_AHEAD;
    }

    private static boolean isTrick(int days, int what) {
        return days >= 1 && days <= MOST_TRICK_DAYS && what >= 0 && what <= 1;
    }

    private static int countOrSet(int set, int what) {
        if (set == NONE) {
            return NONE;
        }
        return what == 0 ? Integer.bitCount(set) : set;
    }

    /** The bytes of a text, and the token that is looked at. */
    private static final class Tape {
        private static final int LONGEST_WORD = 8;
        private static final int LONGEST_NUMBER = 4;

        private final byte[] bytes = new byte[MOST_BYTES];
        private final long[] reserved = new long[RESERVED];
        int length = 0;
        int kind = END;
        int start = 0;
        int value = 0;
        long word = 0;
        private int next = 0;

        Tape() {
            int number = 0;
            for (int i = 0; i < WORDS.length() && number < RESERVED; i++) {
                char letter = WORDS.charAt(i);
                if (letter == ' ') {
                    number++;
                } else {
                    reserved[number] = withLetter(reserved[number], letter);
                }
            }
        }

        void add(int four) {
            for (int shift = 24; shift >= 0 && length < bytes.length; shift -= 8) {
                bytes[length] = (byte) (four >> shift);
                length++;
            }
        }

        void rewind() {
            next = 0;
            step();
        }

        void step() {
            while (next < length && isBlank(bytes[next])) {
                next++;
            }
            start = next;
            if (next >= length) {
                kind = END;
            } else if (isLetter(bytes[next])) {
                readWord();
            } else if (isDigit(bytes[next])) {
                readNumber();
            } else {
                readSign();
            }
        }

        private void readWord() {
            word = 0;
            while (next < length && isLetter(bytes[next])) {
                word = withLetter(word, bytes[next]);
                next++;
            }
            kind = next - start > LONGEST_WORD ? NO_TOKEN : NAME;
            for (int i = 0; i < RESERVED && kind == NAME; i++) {
                if (reserved[i] == word) {
                    kind = i;
                }
            }
        }

        private void readNumber() {
            value = 0;
            while (next < length && isDigit(bytes[next])) {
                value = value * 10 + bytes[next] - '0';
                next++;
            }
            boolean letterBehind = next < length && isLetter(bytes[next]);
            kind = next - start > LONGEST_NUMBER || letterBehind ? NO_TOKEN : NUMBER;
        }

        private void readSign() {
            int sign = bytes[next] & 255;
            kind = SIGNS.indexOf((char) sign) >= 0 ? sign : NO_TOKEN;
            next++;
        }

        /** Eight letters of five bits each: two words are the same if their numbers are. */
        private static long withLetter(long word, int letter) {
            return word * 32 + letter - 'a' + 1;
        }

        private static boolean isBlank(int sign) {
            return sign == 32 || sign == 10;
        }

        private static boolean isLetter(int sign) {
            return sign >= 'a' && sign <= 'z';
        }

        private static boolean isDigit(int sign) {
            return sign >= '0' && sign <= '9';
        }
    }

    /** What a text tells. */
    private static final class Gorge {
        // 30 units, 29 signs that join them, and at most 7 nots ahead of each.
        private static final int MOST_STEPS = 270;

        final long[] name = new long[MOST_FLOCKS];
        final int[] side = new int[MOST_FLOCKS];
        final int[] size = new int[MOST_FLOCKS];
        final int[] home = new int[MOST_FLOCKS];
        final int[] foes = new int[MOST_FLOCKS];
        final int[] wish = new int[MOST_FLOCKS * MOST_FLOCKS];
        final int[] grass = new int[MOST_CELLS];
        final int[] steps = new int[MOST_STEPS];
        // The CELLS beside each, the least first, and how far each is from each home.
        final int[] near = new int[MOST_CELLS * WAYS];
        final int[] far = new int[MOST_FLOCKS * MOST_CELLS];
        int columns;
        int rows;
        int flocks;
        int feuds;
        int units;
        int stepCount;
        int rainOdds;
        int rainGrass;
        int evenings;
        int draw;

        Gorge() {
            clear();
            Arrays.fill(grass, 5);
            measure();
        }

        void clear() {
            columns = 4;
            rows = 4;
            flocks = 0;
            feuds = 0;
            units = 0;
            stepCount = 0;
            rainOdds = 0;
            rainGrass = 1;
            evenings = 9;
            draw = 0;
            Arrays.fill(foes, 0);
            Arrays.fill(wish, NONE);
            Arrays.fill(grass, NONE);
        }

        void addFlock(long word, int itsSide, int itsHome, int itsSize) {
            if (flocks < MOST_FLOCKS) {
                name[flocks] = word;
                side[flocks] = itsSide;
                home[flocks] = itsHome;
                size[flocks] = itsSize;
                flocks++;
            }
        }

        /** A step of the formula, in the order in which it is worked out: N, or ~ of a token's kind. */
        void addStep(int step) {
            if (stepCount < steps.length) {
                steps[stepCount] = step;
                stepCount++;
            }
        }

        boolean readsSalt() {
            for (int i = 0; i < stepCount; i++) {
                if (steps[i] == ~SALT) {
                    return true;
                }
            }
            return stepCount == 0;
        }

        int flockNamed(long word) {
            for (int flock = 0; flock < flocks; flock++) {
                if (name[flock] == word) {
                    return flock;
                }
            }
            return NONE;
        }

        boolean hasFlock(int flock) {
            return flock >= 0 && flock < flocks;
        }

        int cells() {
            return columns * rows;
        }

        boolean hasCell(int cell) {
            return cell >= 0 && cell < cells();
        }

        boolean haveFeud(int flock, int other) {
            return (foes[flock] >> other & 1) != 0;
        }

        boolean canMix(int flock, int other) {
            return hasFlock(flock) && hasFlock(other) && side[flock] != side[other]
                    && !haveFeud(flock, other);
        }

        int wanted(int flock, int other) {
            return wish[flock * MOST_FLOCKS + other];
        }

        boolean couldPair(int flock, int other) {
            return canMix(flock, other) && wanted(flock, other) != NONE
                    && wanted(other, flock) != NONE;
        }

        private int rowOf(int cell) {
            return columns == 0 ? 0 : cell / columns;
        }

        private int columnOf(int cell) {
            return columns == 0 ? 0 : cell % columns;
        }

        /** How many columns and rows are between two CELLS, together. */
        int apart(int cell, int other) {
            return Math.abs(rowOf(cell) - rowOf(other)) + Math.abs(columnOf(cell) - columnOf(other));
        }

        /** Looked up on each day of a trial, so worked out once. */
        void measure() {
            for (int cell = 0; cell < cells(); cell++) {
                int column = columnOf(cell);
                int row = rowOf(cell);
                near[cell * WAYS] = row > 0 ? cell - columns : NONE;
                near[cell * WAYS + 1] = column > 0 ? cell - 1 : NONE;
                near[cell * WAYS + 2] = column < columns - 1 ? cell + 1 : NONE;
                near[cell * WAYS + 3] = row < rows - 1 ? cell + columns : NONE;
                for (int flock = 0; flock < flocks; flock++) {
                    far[flock * MOST_CELLS + cell] = apart(cell, home[flock]);
                }
            }
        }
    }

    /** Reads a text into a gorge, up to the first fault; behind one nothing more is done. */
    private static final class Reader {
        private static final int MISPLACED = 2;
        private static final int TWICE = 3;
        private static final int BAD_NUMBER = 4;
        private static final int UNKNOWN = 5;
        private static final int MOST_GRASSES = 8;
        private static final int MOST_FEUDS = 15;
        // 60 in all are never reached: pull is told once, and what is within ( e ) is in its e too.
        private static final int MOST_UNITS = 30;
        private static final int DEEPEST = 7;
        private static final int OR_LEVEL = 0;
        private static final int AND_LEVEL = 1;
        private static final int ONE_LEVEL = 2;
        private static final int SUM_LEVEL = 3;
        private static final int TERM_LEVEL = 4;
        private static final int UNIT_LEVEL = 5;

        private final Tape tape;
        int fault = 0;
        int place = NONE;
        private Gorge into;
        private int lines = 0;
        private int grasses = 0;
        private int green = 5;

        Reader(Tape tape, Gorge into) {
            this.tape = tape;
            this.into = into;
        }

        boolean reads(Gorge gorge) {
            into = gorge;
            into.clear();
            fault = 0;
            place = NONE;
            lines = 0;
            grasses = 0;
            green = 5;
            tape.rewind();
            for (int i = 0; i < MOST_BYTES && isSound() && tape.kind != END; i++) {
                line();
            }
            sow();
            into.measure();
            return isSound();
        }

        private void sow() {
            for (int cell = 0; cell < MOST_CELLS; cell++) {
                if (into.grass[cell] == NONE) {
                    into.grass[cell] = green;
                }
            }
        }

        private boolean isSound() {
            return fault == 0;
        }

        /** A fault at the token that is looked at; what is no token can't be anything worse. */
        private void fail(int which) {
            if (isSound()) {
                fault = tape.kind == NO_TOKEN ? 1 : which;
                place = tape.start;
            }
        }

        private void need(int kind) {
            if (tape.kind != kind) {
                fail(MISPLACED);
            }
            if (isSound()) {
                tape.step();
            }
        }

        private int number(int least, int most) {
            if (tape.kind != NUMBER) {
                fail(MISPLACED);
            } else if (tape.value < least || tape.value > most) {
                fail(BAD_NUMBER);
            }
            if (!isSound()) {
                return least;
            }
            int value = tape.value;
            tape.step();
            return value;
        }

        private boolean mayBegin(int first) {
            switch (first) {
                case GORGE:
                    return lines == 0;
                case GRASS:
                    return grasses < MOST_GRASSES;
                case FLOCK:
                    return into.flocks < MOST_FLOCKS;
                case FEUD:
                    return into.feuds < MOST_FEUDS;
                case WANTS:
                    return true;
                case GREEN:
                case PULL:
                case RAIN:
                case EVENINGS:
                case DRAW:
                    return (lines >> first & 1) == 0;
                default:
                    return false;
            }
        }

        private void line() {
            int first = tape.kind;
            if (!mayBegin(first)) {
                fail(MISPLACED);
                return;
            }
            lines |= 1 << first;
            tape.step();
            switch (first) {
                case GORGE:
                    gorgeBody();
                    break;
                case GREEN:
                    green = number(0, MOST_GRASS);
                    break;
                case GRASS:
                    grassBody();
                    break;
                case FLOCK:
                    flockBody();
                    break;
                case WANTS:
                    wantsBody();
                    break;
                case FEUD:
                    feudBody();
                    break;
                case PULL:
                    formula(OR_LEVEL, 0);
                    break;
                case RAIN:
                    rainBody();
                    break;
                case EVENINGS:
                    into.evenings = number(1, MOST_EVENINGS);
                    break;
                default:
                    into.draw = number(0, 999);
                    break;
            }
            need(';');
        }

        private void gorgeBody() {
            into.columns = number(2, 5);
            need(BY);
            into.rows = number(2, 5);
        }

        private void rainBody() {
            into.rainOdds = number(0, 100);
            need(OF);
            into.rainGrass = number(1, 9);
        }

        private void grassBody() {
            int column = number(0, into.columns - 1);
            if (tape.kind == NUMBER && tape.value < into.rows
                    && into.grass[tape.value * into.columns + column] != NONE) {
                fail(TWICE);
            }
            int row = number(0, into.rows - 1);
            int much = number(0, MOST_GRASS);
            if (isSound()) {
                into.grass[row * into.columns + column] = much;
                grasses++;
            }
        }

        private void flockBody() {
            long name = tape.word;
            if (tape.kind != NAME) {
                fail(MISPLACED);
            } else if (into.flockNamed(name) != NONE) {
                fail(TWICE);
            }
            need(NAME);
            int side = tape.kind == GROOM ? 1 : 0;
            need(side == 1 ? GROOM : BRIDE);
            need(AT);
            int column = number(0, into.columns - 1);
            int row = number(0, into.rows - 1);
            need(SIZE);
            int size = number(1, 9);
            if (isSound()) {
                into.addFlock(name, side, row * into.columns + column, size);
            }
        }

        /** The FLOCK of this NAME. Its token stays, for what may be wrong with the two together. */
        private int named() {
            if (tape.kind != NAME) {
                fail(MISPLACED);
                return NONE;
            }
            int flock = into.flockNamed(tape.word);
            if (flock == NONE) {
                fail(UNKNOWN);
            }
            return flock;
        }

        private void wantsBody() {
            int flock = named();
            need(NAME);
            int other = named();
            if (!isSound()) {
                return;
            }
            if (into.side[flock] == into.side[other] || into.wanted(flock, other) != NONE) {
                fail(TWICE);
            }
            need(NAME);
            int much = number(0, 99);
            if (isSound()) {
                into.wish[flock * MOST_FLOCKS + other] = much;
            }
        }

        private void feudBody() {
            int flock = named();
            need(NAME);
            int other = named();
            if (!isSound()) {
                return;
            }
            if (flock == other || into.haveFeud(flock, other)) {
                fail(TWICE);
                return;
            }
            need(NAME);
            into.foes[flock] |= 1 << other;
            into.foes[other] |= 1 << flock;
            into.feuds++;
        }

        /** What is joined by the signs of a level (see levelOf) out of what the next one joins. */
        private void formula(int level, int depth) {
            if (level == ONE_LEVEL && tape.kind == NOT) {
                negation(depth);
                return;
            }
            if (level == UNIT_LEVEL) {
                unit(depth);
                return;
            }
            formula(level + 1, depth);
            for (int i = 0; i < MOST_BYTES && isSound() && levelOf(tape.kind) == level; i++) {
                int sign = tape.kind;
                tape.step();
                formula(level + 1, depth);
                into.addStep(~sign);
                if (level == ONE_LEVEL) {
                    return;
                }
            }
        }

        private static int levelOf(int sign) {
            switch (sign) {
                case OR:
                    return OR_LEVEL;
                case AND:
                    return AND_LEVEL;
                case '<':
                case '>':
                case '=':
                    return ONE_LEVEL;
                case '+':
                case '-':
                    return SUM_LEVEL;
                case '*':
                case '/':
                case '%':
                    return TERM_LEVEL;
                default:
                    return NONE;
            }
        }

        private void negation(int depth) {
            if (depth >= DEEPEST) {
                fail(MISPLACED);
                return;
            }
            tape.step();
            formula(ONE_LEVEL, depth + 1);
            into.addStep(~NOT);
        }

        private void unit(int depth) {
            int kind = tape.kind;
            boolean opens = kind == '(';
            boolean tooDeep = opens && depth >= DEEPEST;
            if (!isUnit(kind) || tooDeep || into.units >= MOST_UNITS) {
                fail(MISPLACED);
            }
            if (!isSound()) {
                return;
            }
            into.units++;
            if (!opens) {
                into.addStep(kind == NUMBER ? tape.value : ~kind);
            }
            tape.step();
            if (opens) {
                formula(OR_LEVEL, depth + 1);
                if (tape.kind == ')') {
                    tape.step();
                } else {
                    fail(MISPLACED);
                }
            }
        }

        private static boolean isUnit(int kind) {
            return kind == NUMBER || kind == '(' || isUnitWord(kind);
        }

        private static boolean isUnitWord(int kind) {
            return kind == GRASS || kind >= SALT && kind <= DAY;
        }
    }

    /** How all is on a day. */
    private static final class Herds {
        final int[] at = new int[MOST_FLOCKS];
        final int[] mate = new int[MOST_FLOCKS];
        final int[] grass = new int[MOST_CELLS];
        final int[] salt = new int[MOST_CELLS];
        private final int[] mixed = new int[MOST_FLOCKS * MOST_FLOCKS];
        int penned;
        int day;
        int seed;

        void begin(Gorge gorge) {
            System.arraycopy(gorge.home, 0, at, 0, MOST_FLOCKS);
            for (int cell = 0; cell < MOST_CELLS; cell++) {
                grass[cell] = gorge.hasCell(cell) ? gorge.grass[cell] : 0;
            }
            Arrays.fill(mate, NONE);
            Arrays.fill(salt, 0);
            Arrays.fill(mixed, 0);
            penned = 0;
            day = 0;
            seed = gorge.draw;
        }

        void copy(Herds other) {
            System.arraycopy(other.at, 0, at, 0, MOST_FLOCKS);
            System.arraycopy(other.mate, 0, mate, 0, MOST_FLOCKS);
            System.arraycopy(other.grass, 0, grass, 0, MOST_CELLS);
            System.arraycopy(other.salt, 0, salt, 0, MOST_CELLS);
            System.arraycopy(other.mixed, 0, mixed, 0, mixed.length);
            penned = other.penned;
            day = other.day;
            seed = other.seed;
        }

        private static int pairOf(int flock, int other) {
            return flock < other ? flock * MOST_FLOCKS + other : other * MOST_FLOCKS + flock;
        }

        int mixedOf(int flock, int other) {
            return mixed[pairOf(flock, other)];
        }

        void mix(int flock, int other) {
            mixed[pairOf(flock, other)]++;
        }

        boolean isPenned(int flock) {
            return (penned >> flock & 1) != 0;
        }

        void wed(int flock, int other) {
            mate[flock] = other;
            mate[other] = flock;
        }

        /** With whom the flock was. */
        int part(int flock) {
            int other = mate[flock];
            if (other != NONE) {
                mixed[pairOf(flock, other)] = 0;
                mate[flock] = NONE;
                mate[other] = NONE;
            }
            return other;
        }

        int herdsIn(int cell, int flocks) {
            int set = 0;
            for (int flock = 0; flock < flocks; flock++) {
                if (at[flock] == cell) {
                    set |= 1 << flock;
                }
            }
            return set;
        }

        int single(int flocks) {
            int set = 0;
            for (int flock = 0; flock < flocks; flock++) {
                if (mate[flock] == NONE) {
                    set |= 1 << flock;
                }
            }
            return set;
        }

        int allGrass() {
            int all = 0;
            for (int cell = 0; cell < MOST_CELLS; cell++) {
                all += grass[cell];
            }
            return all;
        }
    }

    /** What draws the flocks, and a day of theirs. */
    private static final class Walk {
        private static final int DEEPEST_STACK = 32;

        private final int[] stack = new int[DEEPEST_STACK];
        private final int[] goal = new int[MOST_FLOCKS];
        private final int[] crowd = new int[MOST_CELLS];
        Gorge gorge;
        // The CELLS, as bits, that flocks have looked at since this was set to 0.
        int looked = 0;

        Walk(Gorge gorge) {
            this.gorge = gorge;
        }

        /** How many flocks are in each CELL, as worth() takes it to be. */
        void count(Herds herds) {
            Arrays.fill(crowd, 0);
            for (int flock = 0; flock < gorge.flocks; flock++) {
                crowd[herds.at[flock]]++;
            }
        }

        /** PULL of a CELL; count() has been called since a flock went last. */
        int worth(Herds herds, int flock, int cell) {
            if (gorge.stepCount == 0) {
                return herds.grass[cell] + 3 * herds.salt[cell];
            }
            int height = 0;
            for (int i = 0; i < gorge.stepCount; i++) {
                int step = gorge.steps[i];
                int kind = ~step;
                if (step >= 0 || Reader.isUnitWord(kind)) {
                    if (height >= DEEPEST_STACK) {
                        return 0;
                    }
                    stack[height] = step >= 0 ? step : unitWorth(kind, herds, flock, cell);
                    height++;
                } else if (kind == NOT && height >= 1) {
                    stack[height - 1] = stack[height - 1] == 0 ? 1 : 0;
                } else if (height >= 2) {
                    height--;
                    stack[height - 1] = joined(kind, stack[height - 1], stack[height]);
                }
            }
            return stack[0];
        }

        private int unitWorth(int kind, Herds herds, int flock, int cell) {
            switch (kind) {
                case GRASS:
                    return herds.grass[cell];
                case SALT:
                    return herds.salt[cell];
                case OTHERS:
                    return crowd[cell] - (herds.at[flock] == cell ? 1 : 0);
                case HOME:
                    return gorge.far[flock * MOST_CELLS + cell];
                case HERE:
                    return herds.at[flock] == cell ? 1 : 0;
                default:
                    return herds.day;
            }
        }

        private static int joined(int kind, int a, int b) {
            switch (kind) {
                case '+':
                    return a + b;
                case '-':
                    return a - b;
                case '*':
                    return a * b;
                case '/':
                    return b == 0 ? 0 : a / b;
                case '%':
                    return b == 0 ? 0 : a % b;
                case '<':
                    return a < b ? 1 : 0;
                case '>':
                    return a > b ? 1 : 0;
                case '=':
                    return a == b ? 1 : 0;
                case AND:
                    return a != 0 && b != 0 ? 1 : 0;
                default:
                    return a != 0 || b != 0 ? 1 : 0;
            }
        }

        /** A day, if so many evenings make a match: how many flocks are matched on it. */
        int pass(Herds herds, int evenings) {
            go(herds);
            eat(herds);
            for (int cell = 0; cell < MOST_CELLS; cell++) {
                herds.salt[cell] = Math.max(0, herds.salt[cell] - 1);
            }
            mingle(herds);
            int more = match(herds, evenings);
            rain(herds);
            herds.day++;
            return more;
        }

        private void go(Herds herds) {
            count(herds);
            for (int flock = 0; flock < gorge.flocks; flock++) {
                int own = herds.at[flock];
                goal[flock] = own;
                if (herds.isPenned(flock)) {
                    continue;
                }
                looked |= 1 << own;
                int most = worth(herds, flock, own);
                for (int way = 0; way < WAYS; way++) {
                    int cell = gorge.near[own * WAYS + way];
                    if (cell == NONE) {
                        continue;
                    }
                    looked |= 1 << cell;
                    int much = worth(herds, flock, cell);
                    if (much > most) {
                        most = much;
                        goal[flock] = cell;
                    }
                }
            }
            System.arraycopy(goal, 0, herds.at, 0, gorge.flocks);
        }

        private void eat(Herds herds) {
            for (int flock = 0; flock < gorge.flocks; flock++) {
                int cell = herds.at[flock];
                herds.grass[cell] = Math.max(0, herds.grass[cell] - gorge.size[flock]);
            }
        }

        private void mingle(Herds herds) {
            for (int flock = 0; flock < gorge.flocks; flock++) {
                for (int other = flock + 1; other < gorge.flocks; other++) {
                    if (herds.at[flock] == herds.at[other] && gorge.canMix(flock, other)) {
                        herds.mix(flock, other);
                    }
                }
            }
        }

        private int match(Herds herds, int evenings) {
            int more = 0;
            for (int flock = 0; flock < gorge.flocks; flock++) {
                for (int other = flock + 1; other < gorge.flocks; other++) {
                    boolean free = herds.mate[flock] == NONE && herds.mate[other] == NONE;
                    if (free && herds.mixedOf(flock, other) >= evenings) {
                        herds.wed(flock, other);
                        more += 2;
                    }
                }
            }
            return more;
        }

        private void rain(Herds herds) {
            herds.seed = (herds.seed * 137 + 71) % 1000;
            if (herds.seed % 100 >= gorge.rainOdds) {
                return;
            }
            for (int cell = 0; cell < gorge.cells(); cell++) {
                herds.grass[cell] = Math.min(MOST_GRASS, herds.grass[cell] + gorge.rainGrass);
            }
        }
    }

    /** What would be, tried out on herds that stand for those of now. */
    private static final class Foresight {
        private final Walk walk;
        private final Herds trial = new Herds();
        // What flocks looked at with salt on two CELLS (or on one, twice), as bits.
        private final int[] lookedAt = new int[MOST_CELLS * MOST_CELLS];
        private final int[] often = new int[MOST_FLOCKS * MOST_CELLS];
        private int flock = 0;
        private int other = 0;
        private int evenings = 0;
        private int days = 0;
        int most = 0;

        Foresight(Walk walk) {
            this.walk = walk;
        }

        Herds behind(Herds now, int n) {
            trial.copy(now);
            for (int i = 0; i < n; i++) {
                walk.pass(trial, walk.gorge.evenings);
            }
            return trial;
        }

        int daysToMatch(Herds now, int which) {
            trial.copy(now);
            for (int n = 0; n < MOST_AHEAD && trial.mate[which] == NONE; n++) {
                walk.pass(trial, walk.gorge.evenings);
            }
            return trial.mate[which] == NONE ? NONE : trial.day - now.day;
        }

        int daysToBare(Herds now) {
            trial.copy(now);
            for (int n = 0; n < MOST_AHEAD && trial.allGrass() > 0; n++) {
                walk.pass(trial, walk.gorge.evenings);
            }
            return trial.allGrass() > 0 ? NONE : trial.day - now.day;
        }

        int singleAtLast(Herds now, int enough) {
            trial.copy(now);
            for (int n = 0; n < MOST_AHEAD; n++) {
                walk.pass(trial, enough);
            }
            return Integer.bitCount(trial.single(walk.gorge.flocks));
        }

        /** Which two leastSalt, leastPens and bestDrive are about. */
        void askOf(int one, int another, int soOften, int inDays) {
            flock = one;
            other = another;
            evenings = soOften;
            days = inDays;
        }

        /** Whether the two mix so often in these days, with salt on a set of CELLS and a set penned. */
        private boolean mixEnough(Herds now, int salted, int pens) {
            trial.copy(now);
            trial.penned |= pens;
            for (int cell = 0; cell < MOST_CELLS; cell++) {
                if ((salted >> cell & 1) != 0) {
                    trial.salt[cell] = SALT_DAYS;
                }
            }
            walk.looked = 0;
            int due = now.mixedOf(flock, other) + evenings;
            for (int left = days; left >= 0; left--) {
                int missing = due - trial.mixedOf(flock, other);
                if (missing <= 0 || missing > left) {
                    return missing <= 0;
                }
                walk.pass(trial, walk.gorge.evenings);
            }
            return false;
        }

        /** Salt that no flock looks at changes nothing: only what was looked at is tried further. */
        int leastSalt(Herds now) {
            if (mixEnough(now, 0, 0)) {
                return 0;
            }
            if (!walk.gorge.readsSalt()) {
                return NONE;
            }
            int set = leastOne(now, walk.looked);
            if (set == NONE) {
                set = leastTwo(now);
            }
            return set == NONE ? leastThree(now) : set;
        }

        private int leastOne(Herds now, int lookedAlone) {
            for (int cell = 0; cell < walk.gorge.cells(); cell++) {
                if (now.salt[cell] > 0) {
                    continue;
                }
                int seen = lookedAlone;
                if ((seen >> cell & 1) != 0) {
                    if (mixEnough(now, 1 << cell, 0)) {
                        return 1 << cell;
                    }
                    seen = walk.looked;
                }
                lookedAt[cell * MOST_CELLS + cell] = seen;
            }
            return NONE;
        }

        private int leastTwo(Herds now) {
            for (int high = 1; high < walk.gorge.cells(); high++) {
                for (int low = 0; low < high; low++) {
                    if (now.salt[high] > 0 || now.salt[low] > 0) {
                        continue;
                    }
                    int seen = lookedAt[high * MOST_CELLS + high];
                    if ((seen >> low & 1) != 0) {
                        seen = lookedAt[low * MOST_CELLS + low];
                        if ((seen >> high & 1) != 0) {
                            if (mixEnough(now, 1 << high | 1 << low, 0)) {
                                return 1 << high | 1 << low;
                            }
                            seen = walk.looked;
                        }
                    }
                    lookedAt[high * MOST_CELLS + low] = seen;
                }
            }
            return NONE;
        }

        private int leastThree(Herds now) {
            for (int high = 2; high < walk.gorge.cells(); high++) {
                for (int middle = 1; middle < high; middle++) {
                    for (int low = 0; low < middle; low++) {
                        if (now.salt[high] > 0 || now.salt[middle] > 0 || now.salt[low] > 0) {
                            continue;
                        }
                        int set = 1 << high | 1 << middle | 1 << low;
                        if (eachIsLookedAt(high, middle, low) && mixEnough(now, set, 0)) {
                            return set;
                        }
                    }
                }
            }
            return NONE;
        }

        private boolean eachIsLookedAt(int high, int middle, int low) {
            return (lookedAt[high * MOST_CELLS + middle] >> low & 1) != 0
                    && (lookedAt[high * MOST_CELLS + low] >> middle & 1) != 0
                    && (lookedAt[middle * MOST_CELLS + low] >> high & 1) != 0;
        }

        int leastPens(Herds now) {
            int sets = 1 << walk.gorge.flocks;
            for (int size = 0; size <= walk.gorge.flocks; size++) {
                for (int set = 0; set < sets; set++) {
                    boolean fits = Integer.bitCount(set) == size && (set & now.penned) == 0;
                    if (fits && !mixEnough(now, 0, set)) {
                        return set;
                    }
                }
            }
            return NONE;
        }

        int bestDrive(Herds now) {
            int own = now.at[flock];
            int best = own;
            most = mixesFrom(now, own);
            for (int way = 0; way < WAYS; way++) {
                int cell = walk.gorge.near[own * WAYS + way];
                int much = cell == NONE ? NONE : mixesFrom(now, cell);
                if (much > most) {
                    most = much;
                    best = cell;
                }
            }
            return best;
        }

        private int mixesFrom(Herds now, int cell) {
            trial.copy(now);
            trial.at[flock] = cell;
            for (int i = 0; i < days; i++) {
                walk.pass(trial, walk.gorge.evenings);
            }
            return trial.mixedOf(flock, other) - now.mixedOf(flock, other);
        }

        int saltedAtNight(Herds now, Sights sights, int k) {
            int set = 0;
            int last = sights.lastDay(k);
            for (int cell = 0; cell < walk.gorge.cells(); cell++) {
                if (now.salt[cell] == 0 && explains(now, cell, sights, k, last)) {
                    set |= 1 << cell;
                }
            }
            return set;
        }

        private boolean explains(Herds now, int cell, Sights sights, int k, int last) {
            trial.copy(now);
            trial.salt[cell] = SALT_DAYS;
            for (int n = 0; n <= last; n++) {
                if (!sights.agree(trial, n, k)) {
                    return false;
                }
                if (n < last) {
                    walk.pass(trial, walk.gorge.evenings);
                }
            }
            return true;
        }

        /** The flock whose cell behind n days tells most of these cells apart. */
        int nextToWatch(Herds now, int cells, int n) {
            Arrays.fill(often, 0);
            for (int cell = 0; cell < walk.gorge.cells(); cell++) {
                if ((cells >> cell & 1) != 0) {
                    countWhere(now, cell, n);
                }
            }
            int best = NONE;
            for (int which = 0; which < walk.gorge.flocks; which++) {
                int left = 0;
                for (int cell = 0; cell < MOST_CELLS; cell++) {
                    left = Math.max(left, often[which * MOST_CELLS + cell]);
                }
                if (best == NONE || left < most) {
                    best = which;
                    most = left;
                }
            }
            return best;
        }

        private void countWhere(Herds now, int salted, int n) {
            trial.copy(now);
            trial.salt[salted] = SALT_DAYS;
            for (int i = 0; i < n; i++) {
                walk.pass(trial, walk.gorge.evenings);
            }
            for (int which = 0; which < walk.gorge.flocks; which++) {
                often[which * MOST_CELLS + trial.at[which]]++;
            }
        }
    }

    /** The acts that can be taken back or done again: of each, how all was on its other side. */
    private static final class Past {
        private final Herds[] kept = new Herds[MOST_ACTS];
        int done = 0;
        int undone = 0;

        Past() {
            for (int i = 0; i < MOST_ACTS; i++) {
                kept[i] = new Herds();
            }
        }

        void forget() {
            done = 0;
            undone = 0;
        }

        void keep(Herds now) {
            if (done >= MOST_ACTS) {
                dropOldest();
            }
            kept[done].copy(now);
            done++;
            undone = 0;
        }

        private void dropOldest() {
            Herds oldest = kept[0];
            for (int i = 1; i < MOST_ACTS; i++) {
                kept[i - 1] = kept[i];
            }
            kept[MOST_ACTS - 1] = oldest;
            done = MOST_ACTS - 1;
        }

        Herds takeBack(Herds now) {
            if (done == 0) {
                return now;
            }
            done--;
            undone++;
            return swap(done, now);
        }

        Herds doAgain(Herds now) {
            if (undone == 0) {
                return now;
            }
            Herds then = swap(done, now);
            done++;
            undone--;
            return then;
        }

        private Herds swap(int act, Herds now) {
            Herds then = kept[act];
            kept[act] = now;
            return then;
        }
    }

    /** All the ways to pair brides with grooms in which nobody is drawn away. */
    private static final class Pairs {
        private final int[] with = new int[MOST_FLOCKS];
        final int[] first = new int[MOST_FLOCKS];
        final int[] dearest = new int[MOST_FLOCKS];
        final int[] reached = new int[MOST_FLOCKS];
        int calm = 0;
        int dear = 0;
        private Gorge gorge;

        Pairs(Gorge gorge) {
            this.gorge = gorge;
        }

        void search(Gorge told) {
            gorge = told;
            calm = 0;
            dear = NONE;
            Arrays.fill(with, NONE);
            Arrays.fill(reached, NONE);
            pairFrom(0);
        }

        /** Alone first, then by the other one's number: so the ways come in their order. */
        private void pairFrom(int flock) {
            if (flock >= gorge.flocks) {
                if (isCalm()) {
                    note();
                }
                return;
            }
            pairFrom(flock + 1);
            if (with[flock] != NONE) {
                return;
            }
            for (int other = flock + 1; other < gorge.flocks; other++) {
                if (with[other] == NONE && gorge.couldPair(flock, other)) {
                    with[flock] = other;
                    with[other] = flock;
                    pairFrom(flock + 1);
                    with[flock] = NONE;
                    with[other] = NONE;
                }
            }
        }

        private int has(int flock) {
            return with[flock] == NONE ? 0 : gorge.wanted(flock, with[flock]);
        }

        private boolean isCalm() {
            for (int flock = 0; flock < gorge.flocks; flock++) {
                for (int other = flock + 1; other < gorge.flocks; other++) {
                    if (gorge.couldPair(flock, other) && gorge.wanted(flock, other) > has(flock)
                            && gorge.wanted(other, flock) > has(other)) {
                        return false;
                    }
                }
            }
            return true;
        }

        private void note() {
            int all = 0;
            for (int flock = 0; flock < gorge.flocks; flock++) {
                int much = has(flock);
                all += much;
                reached[flock] = Math.max(reached[flock], much);
            }
            if (calm == 0) {
                System.arraycopy(with, 0, first, 0, MOST_FLOCKS);
            }
            if (all > dear) {
                dear = all;
                System.arraycopy(with, 0, dearest, 0, MOST_FLOCKS);
            }
            calm++;
        }
    }

    /** Where flocks were seen, each told at a time and maybe untold at another. */
    private static final class Sights {
        private final int[] days = new int[MOST_SEEN];
        private final int[] flock = new int[MOST_SEEN];
        private final int[] cell = new int[MOST_SEEN];
        private final boolean[] there = new boolean[MOST_SEEN];
        private final int[] toldAt = new int[MOST_SEEN];
        private final int[] untoldAt = new int[MOST_SEEN];
        int count = 0;
        int time = 0;

        int tell(int inDays, int which, int where, boolean is) {
            if (count >= MOST_SEEN) {
                return NONE;
            }
            days[count] = inDays;
            flock[count] = which;
            cell[count] = where;
            there[count] = is;
            toldAt[count] = time;
            untoldAt[count] = NONE;
            count++;
            return count - 1;
        }

        boolean takeBack(int number) {
            if (number < 0 || number >= count || untoldAt[number] != NONE) {
                return false;
            }
            untoldAt[number] = time;
            return true;
        }

        private boolean isKnown(int number, int k) {
            return toldAt[number] <= k && (untoldAt[number] == NONE || untoldAt[number] > k);
        }

        /** The last day that something known tells of. */
        int lastDay(int k) {
            int last = NONE;
            for (int i = 0; i < count; i++) {
                if (isKnown(i, k)) {
                    last = Math.max(last, days[i]);
                }
            }
            return last;
        }

        boolean agree(Herds herds, int day, int k) {
            for (int i = 0; i < count; i++) {
                boolean asTold = (herds.at[flock[i]] == cell[i]) == there[i];
                if (days[i] == day && isKnown(i, k) && !asTold) {
                    return false;
                }
            }
            return true;
        }
    }
}
