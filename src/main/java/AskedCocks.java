import java.util.Arrays;

/**
 * Weathercocks over a row of roofs, each turned by a law, that see who walks below
 * and are asked once what they saw. ../shared/DOC.md says what each call answers.
 *
 * Each public method tests its arguments and refuses, or hands them on; behind it every
 * index is in its row. All rows are made in constructors and used again: no call makes any.
 */
public final class AskedCocks {
    public static final int BAD = -1, STATE = -2, FULL = -3, NONE = -9;
    public static final int NO = -1000000;

    private static final int CELLS = 24;
    private static final int HIGHEST_ROOF = 9;
    private static final int COCKS = 5, PEOPLE = 4, SMOKES = 4;
    private static final int LAST_HOUR = 29, END_HOUR = 30;
    private static final int HIGHEST_TURN = 9;
    private static final int FASTEST = 3;
    private static final int CELL = 0, RISE = 1, SIDE = 2, TURN = 3;
    private static final int START = 0, SPEED = 1;
    private static final int FROM = 1, TO = 2;
    private static final int HOURS_OF_ONE_CALL = 9;
    private static final int HOURS_OF_MOST = 60;
    /** Far above what it takes to ask all COCKS. */
    private static final int HOURS_FOR_ALL = 1000000;
    private static final int HOURS_OF_ODDS = 8;
    private static final int TENTHS = 10;
    private static final int HIGHEST_BYTE = 255;
    private static final int FAULTS_FROM = -10;

    private final Script script;
    private final Reader reader;
    private final Watch watch;
    private final Clues clues;
    private final Kinds kinds;
    private final Present[] images;
    private int imagesKept;

    public AskedCocks() {
        script = new Script();
        reader = new Reader();
        watch = new Watch();
        clues = new Clues();
        kinds = new Kinds();
        images = new Present[] {new Present(), new Present()};
    }

    // ---- the diocese

    public int type(int c) {
        if (!isWithin(c, 0, HIGHEST_BYTE)) return BAD;
        return script.append(c) ? script.length : FULL;
    }

    public int clear() {
        int had = script.length;
        script.empty();
        return had;
    }

    public int diocese() {
        int items = reader.readAll(script);
        if (items < 0) return items;
        watch.beginWith(reader.draft);
        clues.drop();
        imagesKept = 0;
        script.empty();
        return items;
    }

    public int roof(int x) {
        return isCell(x) ? watch.present.roofs[x] : BAD;
    }

    public int cock(int c, int what) {
        if (!isCock(c)) return BAD;
        switch (what) {
            case CELL: case RISE: case SIDE: case TURN: return watch.told.cocks[c][what];
            case 4: return watch.eyeOf(c);
            case 5: return watch.told.sideOf(c, watch.present.hour);
            case 6: return watch.present.isAsked(c) ? 1 : 0;
            case 7: return watch.present.tellingOf(c);
            default: return BAD;
        }
    }

    public int one(int p, int what) {
        if (!isOne(p)) return NO;
        switch (what) {
            case START: case SPEED: return watch.told.people[p][what];
            case 2: return watch.told.cellOf(p, watch.present.hour);
            default: return NO;
        }
    }

    public int saw(int c, int p) {
        return isCock(c) && isOne(p) ? watch.present.seen[c][p] : BAD;
    }

    public int known(int p) {
        return isOne(p) ? watch.present.seenByAnyOf(watch.present.asked, p) : BAD;
    }

    // ---- what is done

    public int hours(int n) {
        if (!isWithin(n, 1, HOURS_OF_ONE_CALL)) return BAD;
        if (watch.present.hour >= END_HOUR) return STATE;
        watch.goBy(n);
        return watch.present.hour;
    }

    public int builds(int x, int height) {
        if (!isCell(x) || !isWithin(height, 0, HIGHEST_ROOF)) return BAD;
        int former = watch.present.roofs[x];
        if (former == height) return STATE;
        watch.present.build(x, height);
        return former;
    }

    public int asks(int c) {
        if (!isCock(c)) return BAD;
        if (watch.present.isAsked(c)) return STATE;
        int knownBefore = watch.present.amountKnownWith(0);
        watch.present.bringDown(c);
        return watch.present.amountKnownWith(0) - knownBefore;
    }

    public int undo() {
        if (watch.present.deeds == 0) return STATE;
        watch.present.undoLatest();
        return watch.present.deeds;
    }

    public int now(int what) {
        switch (what) {
            case 0: return watch.present.hour;
            case 1: return watch.present.asked;
            case 2: return watch.present.amountKnownWith(0);
            case 3: return watch.present.amountSeenBy(watch.told.allCocks());
            // COVER is what is best to ask where hours don't count: all is KNOWN then, by fewest
            case 4: return watch.bestToAsk(HOURS_FOR_ALL);
            default: return BAD;
        }
    }

    // ---- what could be

    public int view(int c, int hour) {
        return isCock(c) && isHour(hour) ? watch.viewOf(c, hour) : BAD;
    }

    public int blind(int hour) {
        return isHour(hour) ? watch.unseenIn(hour) : BAD;
    }

    public int most(int n, int what) {
        if (!isWithin(n, 0, HOURS_OF_MOST) || !isWithin(what, 0, 1)) return BAD;
        int best = watch.bestToAsk(n);
        return what == 0 ? best : watch.present.amountKnownWith(best);
    }

    public int odds(int c, int x, int from, int to, int chance, int what) {
        if (!isCock(c) || !isCell(x) || !isHour(from) || !isHour(to)) return BAD;
        if (to < from || to - from >= HOURS_OF_ODDS) return BAD;
        if (!isWithin(chance, 0, TENTHS) || !isWithin(what, 0, 1)) return BAD;
        int inView = watch.hoursInView(c, x, from, to);
        int shared = sharedWithTen(chance);
        int lower = power(TENTHS / shared, inView);
        return what == 0 ? lower - power(chance / shared, inView) : lower;
    }

    // ---- laws, ways

    public int faced(int hour, int side) {
        if (!isHour(hour) || !isWithin(side, 0, 1)) return BAD;
        return clues.addFaced(hour, side) ? clues.facedCount : FULL;
    }

    public int laws(int what) {
        switch (what) {
            case 0: return clues.lawCount();
            case 1: return clues.firstLaw();
            default: return BAD;
        }
    }

    public int tryNext() {
        return clues.bestHourToTry();
    }

    public int met(int x, int hour) {
        if (!isCell(x) || !isHour(hour)) return BAD;
        return clues.addMet(x, hour) ? clues.metCount : FULL;
    }

    public int ways(int what) {
        switch (what) {
            case 0: return clues.wayCount();
            case 1: return clues.falsesOf(clues.bestWay()) == 0 ? clues.bestWay() : NONE;
            default: return BAD;
        }
    }

    public int falses(int what) {
        switch (what) {
            case 0: return clues.falsesOf(clues.bestWay());
            case 1: return clues.bestWay();
            default: return BAD;
        }
    }

    public int forget() {
        int both = clues.facedCount + clues.metCount;
        clues.drop();
        return both;
    }

    // ---- kinds, images

    public int mark(int kind, int c) {
        return isCock(c) ? kinds.markAs(kind, watch, c) : NO;
    }

    public int keep(int image) {
        if (!isWithin(image, 0, images.length - 1)) return BAD;
        images[image].becomeAs(watch.present);
        imagesKept |= 1 << image;
        return watch.present.hour;
    }

    public int back(int image) {
        if (!isWithin(image, 0, images.length - 1)) return BAD;
        if (!isIn(image, imagesKept)) return STATE;
        watch.present.becomeAs(images[image]);
        return watch.present.hour;
    }

    public int count(int what) {
        switch (what) {
            case 0: return watch.told.cockCount;
            case 1: return watch.told.peopleCount;
            case 2: return watch.told.smokeCount;
            case 3: return clues.facedCount;
            case 4: return clues.metCount;
            case 5: return watch.present.deeds;
            case 6: return script.length;
            default: return BAD;
        }
    }

    public long trace() {
        return kinds.trace;
    }

    // ---- what arguments may be

    private boolean isCock(int c) {
        return isWithin(c, 0, watch.told.cockCount - 1);
    }

    private boolean isOne(int p) {
        return isWithin(p, 0, watch.told.peopleCount - 1);
    }

    private static boolean isCell(int x) {
        return isWithin(x, 0, CELLS - 1);
    }

    private static boolean isHour(int hour) {
        return isWithin(hour, 0, LAST_HOUR);
    }

    private static boolean isWithin(int number, int lowest, int highest) {
        return lowest <= number && number <= highest;
    }

    private static boolean isIn(int number, int bits) {
        return (bits >> number & 1) == 1;
    }

    // ---- laws of turning and walking, numbers

    private static int sideBy(int side, int turn, int hour) {
        if (turn <= 0) return side;
        boolean isTurned = hour / turn % 2 == 1;
        return isTurned ? 1 - side : side;
    }

    private static int placeBy(int start, int speed, int hour) {
        return start + hour * speed;
    }

    private static int power(int base, int exponent) {
        int product = 1;
        for (int i = 0; i < exponent; i++) product *= base;
        return product;
    }

    /** Once this is out of a chance by ten, its powers and what they leave of 1 are in least terms. */
    private static int sharedWithTen(int chance) {
        for (int divisor = TENTHS; divisor > 1; divisor--) {
            if (TENTHS % divisor == 0 && chance % divisor == 0) return divisor;
        }
        return 1;
    }

    /** From rows to rows of the same lengths. */
    private static void copyRows(int[][] from, int[][] to) {
        for (int i = 0; i < from.length && i < to.length; i++) {
            System.arraycopy(from[i], 0, to[i], 0, Math.min(from[i].length, to[i].length));
        }
    }

    /** THE TEXT, and its TOKENS one after another. */
    private static final class Script {
        private static final int ROOM = 150;
        private static final int BLANK = 32;
        private static final int HIGHEST_NUMBER = 99;
        /** The sorts of TOKENS; NOTHING is what can stand nowhere. */
        private static final int END = 0, WORD = 1, NUMBER = 2, STOP = 3, NOTHING = 4;

        private final int[] bytes = new int[ROOM];
        private int length;
        private int at;
        private int tokenStart;
        /** Of a NUMBER what it is, of a WORD of one letter that letter, else 0. */
        private int tokenValue;

        private boolean append(int c) {
            if (length >= ROOM) return false;
            bytes[length] = c;
            length++;
            return true;
        }

        private void empty() {
            length = 0;
        }

        private void rewind() {
            at = 0;
        }

        /** Reads the next TOKEN: its sort. At THE TEXT's end a TOKEN would start at its length. */
        private int nextToken() {
            while (at < length && bytes[at] == BLANK) at++;
            tokenStart = at;
            tokenValue = 0;
            if (at >= length) return END;
            if (isLetter(bytes[at])) return readWord();
            if (isDigit(bytes[at])) return readNumber();
            boolean isStop = bytes[at] == ';';
            at++;
            return isStop ? STOP : NOTHING;
        }

        private int readWord() {
            int letter = bytes[at];
            while (at < length && isLetter(bytes[at])) at++;
            if (at - tokenStart == 1) tokenValue = letter;
            return WORD;
        }

        private int readNumber() {
            boolean isZeroAhead = bytes[at] == '0';
            while (at < length && isDigit(bytes[at])) {
                // what is too high stays so: no run of digits overflows
                if (tokenValue <= HIGHEST_NUMBER) tokenValue = tokenValue * 10 + bytes[at] - '0';
                at++;
            }
            if (isZeroAhead && at - tokenStart > 1) return NOTHING;
            return tokenValue > HIGHEST_NUMBER ? NOTHING : NUMBER;
        }

        private static boolean isLetter(int c) {
            return 'a' <= c && c <= 'z';
        }

        private static boolean isDigit(int c) {
            return '0' <= c && c <= '9';
        }
    }

    /** Reads THE TEXT, ITEM by ITEM, into a draft, so that a FAULT leaves all as it was. */
    private static final class Reader {
        private static final int ROOF_ITEM = 0, COCK_ITEM = 1, ONE_ITEM = 2, SMOKE_ITEM = 3;
        private static final char[] LETTERS = {'r', 'c', 'p', 's'};
        /** By ITEM: how many NUMBERS it tells; by ITEM and NUMBER: what that may be. */
        private static final int[] NUMBERS = {2, 4, 2, 3};
        private static final int ROW = 4;
        private static final int[] LOWEST = {0, 0, 0, 0, 0, 1, 0, 0, 0, 0, 0, 0, 0, 0, 0, 0};
        private static final int[] HIGHEST = {23, 9, 0, 0, 23, 5, 1, 9, 23, 6, 0, 0, 23, 29, 29, 0};

        private final Diocese draft = new Diocese();
        private final int[] numbers = new int[ROW];

        /** How many ITEMS, or -10 less FAULT. */
        private int readAll(Script script) {
            draft.empty();
            script.rewind();
            int items = 0;
            // an ITEM has more than one byte, so the text ends first
            while (items <= Script.ROOM) {
                int token = script.nextToken();
                if (token == Script.END) return items;
                if (token != Script.WORD || !readItem(script)) return FAULTS_FROM - script.tokenStart;
                items++;
            }
            return items;
        }

        /** Reads what follows a WORD; if not, the TOKEN read last can't stand there. */
        private boolean readItem(Script script) {
            int item = itemOf(script.tokenValue);
            if (item < 0 || !hasRoomFor(item)) return false;
            for (int i = 0; i < NUMBERS[item]; i++) {
                if (script.nextToken() != Script.NUMBER) return false;
                if (!mayBe(item, i, script.tokenValue)) return false;
                numbers[i] = script.tokenValue;
            }
            if (script.nextToken() != Script.STOP) return false;
            tell(item);
            return true;
        }

        private static int itemOf(int letter) {
            for (int item = 0; item < LETTERS.length; item++) {
                if (LETTERS[item] == letter) return item;
            }
            return -1;
        }

        private boolean hasRoomFor(int item) {
            switch (item) {
                case COCK_ITEM: return draft.cockCount < COCKS;
                case ONE_ITEM: return draft.peopleCount < PEOPLE;
                case SMOKE_ITEM: return draft.smokeCount < SMOKES;
                default: return true;
            }
        }

        private boolean mayBe(int item, int i, int number) {
            if (item == SMOKE_ITEM && i == TO && number < numbers[FROM]) return false;
            return isWithin(number, LOWEST[item * ROW + i], HIGHEST[item * ROW + i]);
        }

        private void tell(int item) {
            switch (item) {
                case ROOF_ITEM: draft.roofs[numbers[0]] = numbers[1]; break;
                case COCK_ITEM: draft.addCock(numbers); break;
                case ONE_ITEM: draft.addOne(numbers); break;
                default: draft.addSmoke(numbers);
            }
        }
    }

    /** What a text told, and what follows from it alone. */
    private static final class Diocese {
        private final int[] roofs = new int[CELLS];
        private final int[][] cocks = new int[COCKS][TURN + 1];
        private final int[][] people = new int[PEOPLE][SPEED + 1];
        private final int[][] smokes = new int[SMOKES][TO + 1];
        private int cockCount;
        private int peopleCount;
        private int smokeCount;

        private void empty() {
            Arrays.fill(roofs, 0);
            cockCount = 0;
            peopleCount = 0;
            smokeCount = 0;
        }

        private void addCock(int[] numbers) {
            System.arraycopy(numbers, 0, cocks[cockCount], 0, TURN + 1);
            cockCount++;
        }

        private void addOne(int[] numbers) {
            people[peopleCount][START] = numbers[START];
            people[peopleCount][SPEED] = numbers[SPEED] - FASTEST;
            peopleCount++;
        }

        private void addSmoke(int[] numbers) {
            System.arraycopy(numbers, 0, smokes[smokeCount], 0, TO + 1);
            smokeCount++;
        }

        private void becomeAs(Diocese other) {
            System.arraycopy(other.roofs, 0, roofs, 0, CELLS);
            copyRows(other.cocks, cocks);
            copyRows(other.people, people);
            copyRows(other.smokes, smokes);
            cockCount = other.cockCount;
            peopleCount = other.peopleCount;
            smokeCount = other.smokeCount;
        }

        private int allCocks() {
            return (1 << cockCount) - 1;
        }

        private int sideOf(int c, int hour) {
            return sideBy(cocks[c][SIDE], cocks[c][TURN], hour);
        }

        private int cellOf(int p, int hour) {
            int place = placeBy(people[p][START], people[p][SPEED], hour);
            return isCell(place) ? place : NONE;
        }

        private boolean isSmoky(int x, int hour) {
            for (int s = 0; s < smokeCount; s++) {
                if (smokes[s][CELL] == x && isWithin(hour, smokes[s][FROM], smokes[s][TO])) return true;
            }
            return false;
        }
    }

    /** NOW, which IMAGES keep: the HOUR, ROOFS, who was SEEN, who was ASKED, what may be UNDONE. */
    private static final class Present {
        private static final int DEEDS = 10;
        private static final int GONE_BY = 0, BUILT = 1, ASKED = 2;
        private static final int HOURS_TO_ASK = 1, TELLINGS_AN_HOUR = 4;

        private int hour;
        private int asked;
        private final int[] roofs = new int[CELLS];
        private final int[][] seen = new int[COCKS][PEOPLE];
        /** Of what may be UNDONE, the latest last: its sort, the HOUR, CELL or COCK, the ROOF till then. */
        private final int[] deedSorts = new int[DEEDS];
        private final int[] deedNumbers = new int[DEEDS];
        private final int[] deedRoofs = new int[DEEDS];
        private int deeds;

        private void beginOver(int[] roofsTold) {
            hour = 0;
            asked = 0;
            deeds = 0;
            System.arraycopy(roofsTold, 0, roofs, 0, CELLS);
            for (int c = 0; c < COCKS; c++) Arrays.fill(seen[c], 0);
        }

        private void becomeAs(Present other) {
            hour = other.hour;
            asked = other.asked;
            deeds = other.deeds;
            System.arraycopy(other.roofs, 0, roofs, 0, CELLS);
            copyRows(other.seen, seen);
            System.arraycopy(other.deedSorts, 0, deedSorts, 0, DEEDS);
            System.arraycopy(other.deedNumbers, 0, deedNumbers, 0, DEEDS);
            System.arraycopy(other.deedRoofs, 0, deedRoofs, 0, DEEDS);
        }

        private boolean isAsked(int c) {
            return isIn(c, asked);
        }

        private void rememberHour() {
            remember(GONE_BY, hour, 0);
        }

        private void build(int x, int height) {
            remember(BUILT, x, roofs[x]);
            roofs[x] = height;
        }

        private void bringDown(int c) {
            remember(ASKED, c, 0);
            asked |= 1 << c;
        }

        private void remember(int sort, int number, int roofTillThen) {
            if (deeds >= DEEDS) loseOldest();
            deedSorts[deeds] = sort;
            deedNumbers[deeds] = number;
            deedRoofs[deeds] = roofTillThen;
            deeds++;
        }

        private void loseOldest() {
            System.arraycopy(deedSorts, 1, deedSorts, 0, DEEDS - 1);
            System.arraycopy(deedNumbers, 1, deedNumbers, 0, DEEDS - 1);
            System.arraycopy(deedRoofs, 1, deedRoofs, 0, DEEDS - 1);
            deeds = DEEDS - 1;
        }

        private void undoLatest() {
            if (deeds <= 0) return;
            deeds--;
            int number = deedNumbers[deeds];
            switch (deedSorts[deeds]) {
                case GONE_BY: returnTo(number); break;
                case BUILT: roofs[number] = deedRoofs[deeds]; break;
                default: asked &= ~(1 << number);
            }
        }

        /** Nobody had been SEEN yet in that HOUR or a later one. */
        private void returnTo(int formerHour) {
            hour = formerHour;
            int earlier = (1 << formerHour) - 1;
            for (int c = 0; c < COCKS; c++) {
                for (int p = 0; p < PEOPLE; p++) seen[c][p] &= earlier;
            }
        }

        private int seenByAnyOf(int cocks, int p) {
            int seenThen = 0;
            for (int c = 0; c < COCKS; c++) {
                if (isIn(c, cocks)) seenThen |= seen[c][p];
            }
            return seenThen;
        }

        private int amountSeenBy(int cocks) {
            int amount = 0;
            for (int p = 0; p < PEOPLE; p++) amount += Integer.bitCount(seenByAnyOf(cocks, p));
            return amount;
        }

        /** How much is KNOWN once these COCKS are ASKED, too. */
        private int amountKnownWith(int cocks) {
            return amountSeenBy(asked | cocks);
        }

        private int tellingOf(int c) {
            int telling = 0;
            for (int p = 0; p < PEOPLE; p++) telling += Integer.bitCount(seen[c][p]);
            return telling;
        }

        private int hoursToAsk(int cocks) {
            int hours = 0;
            for (int c = 0; c < COCKS; c++) {
                if (isIn(c, cocks)) hours += HOURS_TO_ASK + tellingOf(c) / TELLINGS_AN_HOUR;
            }
            return hours;
        }
    }

    /** The diocese as it is NOW: what COCKS can see, SEE as HOURS go by, could tell. */
    private static final class Watch {
        private final Diocese told = new Diocese();
        private final Present present = new Present();

        private void beginWith(Diocese read) {
            told.becomeAs(read);
            present.beginOver(told.roofs);
        }

        private int eyeOf(int c) {
            return present.roofs[told.cocks[c][CELL]] + told.cocks[c][RISE];
        }

        private boolean canSee(int c, int x, int hour) {
            int cell = told.cocks[c][CELL];
            if (x == cell) return false;
            int sideOfX = x > cell ? 1 : 0;
            return sideOfX == told.sideOf(c, hour) && isLineFree(cell, eyeOf(c), x);
        }

        /** Whether no ROOF between is over the line; all times its length, to stay with whole numbers. */
        private boolean isLineFree(int cell, int eye, int x) {
            int step = x > cell ? 1 : -1;
            int length = Math.abs(x - cell);
            int fall = present.roofs[x] - eye;
            for (int i = 1; i < length; i++) {
                int line = eye * length + fall * i;
                if (present.roofs[cell + i * step] * length > line) return false;
            }
            return true;
        }

        private int viewOf(int c, int hour) {
            int cells = 0;
            for (int x = 0; x < CELLS; x++) {
                if (canSee(c, x, hour)) cells |= 1 << x;
            }
            return cells;
        }

        private int unseenIn(int hour) {
            int seen = 0;
            for (int c = 0; c < told.cockCount; c++) {
                if (!present.isAsked(c)) seen |= viewOf(c, hour);
            }
            return ~seen & (1 << CELLS) - 1;
        }

        private int hoursInView(int c, int x, int from, int to) {
            int hours = 0;
            for (int hour = from; hour <= to; hour++) {
                if (canSee(c, x, hour)) hours++;
            }
            return hours;
        }

        private void goBy(int n) {
            present.rememberHour();
            int end = Math.min(present.hour + n, END_HOUR);
            for (int hour = present.hour; hour < end; hour++) {
                seeAllIn(hour);
            }
            present.hour = end;
        }

        private void seeAllIn(int hour) {
            for (int p = 0; p < told.peopleCount; p++) {
                int cell = told.cellOf(p, hour);
                if (cell != NONE && !told.isSmoky(cell, hour)) seeOne(p, cell, hour);
            }
        }

        private void seeOne(int p, int cell, int hour) {
            for (int c = 0; c < told.cockCount; c++) {
                if (!present.isAsked(c) && canSee(c, cell, hour)) present.seen[c][p] |= 1 << hour;
            }
        }

        private int bestToAsk(int hours) {
            int best = 0;
            for (int cocks = 1; cocks <= told.allCocks(); cocks++) {
                boolean canBeAsked = (cocks & present.asked) == 0 && present.hoursToAsk(cocks) <= hours;
                if (canBeAsked && isBetter(cocks, best)) best = cocks;
            }
            return best;
        }

        /** Of like ones the earlier, of least bits, stays. */
        private boolean isBetter(int cocks, int best) {
            int more = present.amountKnownWith(cocks) - present.amountKnownWith(best);
            if (more != 0) return more > 0;
            return Integer.bitCount(cocks) < Integer.bitCount(best);
        }
    }

    /** What was FACED and MET of unknown ones, and what follows. */
    private static final class Clues {
        private static final int ROOM = 6;

        private final int[] facedHours = new int[ROOM];
        private final int[] facedSides = new int[ROOM];
        private int facedCount;
        private final int[] metCells = new int[ROOM];
        private final int[] metHours = new int[ROOM];
        private int metCount;

        private void drop() {
            facedCount = 0;
            metCount = 0;
        }

        private boolean addFaced(int hour, int side) {
            if (facedCount >= ROOM) return false;
            facedHours[facedCount] = hour;
            facedSides[facedCount] = side;
            facedCount++;
            return true;
        }

        private boolean addMet(int x, int hour) {
            if (metCount >= ROOM) return false;
            metCells[metCount] = x;
            metHours[metCount] = hour;
            metCount++;
            return true;
        }

        private boolean isLaw(int side, int turn) {
            for (int i = 0; i < facedCount; i++) {
                if (sideBy(side, turn, facedHours[i]) != facedSides[i]) return false;
            }
            return true;
        }

        private int lawCount() {
            return lawsFacing(0, 0) + lawsFacing(1, 0);
        }

        private int lawsFacing(int facedSide, int hour) {
            int laws = 0;
            for (int side = 0; side <= 1; side++) {
                for (int turn = 0; turn <= HIGHEST_TURN; turn++) {
                    if (isLaw(side, turn) && sideBy(side, turn, hour) == facedSide) laws++;
                }
            }
            return laws;
        }

        private int firstLaw() {
            for (int side = 0; side <= 1; side++) {
                for (int turn = 0; turn <= HIGHEST_TURN; turn++) {
                    if (isLaw(side, turn)) return 10 * side + turn;
                }
            }
            return NONE;
        }

        /** An HOUR that parts nothing leaves all LAWS on one side, so fewer than 2 are never parted. */
        private int bestHourToTry() {
            int best = NONE;
            int leftByBest = lawCount();
            for (int hour = 0; hour <= LAST_HOUR; hour++) {
                int left = Math.max(lawsFacing(0, hour), lawsFacing(1, hour));
                if (left < leftByBest) {
                    best = hour;
                    leftByBest = left;
                }
            }
            return best;
        }

        /** A way is told by one number: 10 times START, and SPEED and 3. */
        private int falsesOf(int way) {
            int start = way / 10;
            int speed = way % 10 - FASTEST;
            int falses = 0;
            for (int i = 0; i < metCount; i++) {
                if (placeBy(start, speed, metHours[i]) != metCells[i]) falses++;
            }
            return falses;
        }

        private int wayCount() {
            int ways = 0;
            for (int start = 0; start < CELLS; start++) {
                for (int told = 0; told <= 2 * FASTEST; told++) {
                    if (falsesOf(10 * start + told) == 0) ways++;
                }
            }
            return ways;
        }

        /** The first of those by which fewest of what was MET is false. */
        private int bestWay() {
            int best = 0;
            for (int start = 0; start < CELLS; start++) {
                for (int told = 0; told <= 2 * FASTEST; told++) {
                    int way = 10 * start + told;
                    if (falsesOf(way) < falsesOf(best)) best = way;
                }
            }
            return best;
        }
    }

    /** KINDS of COCKS: each body asks the KIND above, and THE TRACE tells how often each was asked. */
    private static final class Kinds {
        private long trace;

        private int markAs(int kind, Watch watch, int c) {
            switch (kind) {
                case 0: return markAsCock(watch, c);
                case 1: return markAsGold(watch, c);
                case 2: return markAsIron(watch, c);
                case 3: return markAsDean(watch, c);
                case 4: return markAsBarn(watch, c);
                case 5: return markAsZinc(watch, c);
                default: return NO;
            }
        }

        private int markAsCock(Watch watch, int c) {
            trace += 1;
            return watch.eyeOf(c);
        }

        private int markAsGold(Watch watch, int c) {
            trace += 10;
            return markAsCock(watch, c) + watch.present.tellingOf(c);
        }

        private int markAsIron(Watch watch, int c) {
            trace += 100;
            return markAsCock(watch, c) - watch.told.cocks[c][CELL];
        }

        private int markAsDean(Watch watch, int c) {
            trace += 1000;
            return markAsGold(watch, c) * 2;
        }

        private int markAsBarn(Watch watch, int c) {
            trace += 10000;
            return markAsIron(watch, c) + c;
        }

        private int markAsZinc(Watch watch, int c) {
            trace += 100000;
            return markAsCock(watch, c) + watch.present.hour;
        }
    }
}
