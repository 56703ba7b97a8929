import java.util.Arrays;

/** Two schools that build forts of snow across a yard, by the articles of a treaty. */
public final class SnowForts {
    public static final int NONE = -1;

    private static final int FINE = 0;
    private static final int NO_TRAY = 1;
    private static final int NO_CELL = 2;
    private static final int TRAY_MISSING = 3;
    private static final int NO_PLACE = 4;
    private static final int BAD_NUMBER = 5;
    private static final int BELOW_ZERO = 6;
    private static final int ONE_TOO_MANY = 7;
    private static final int THERE_IS_NONE = 8;
    private static final int IT_CANNOT_BE = 9;
    private static final int FAULTY = 10;
    private static final int UNLIKE_SORTS = 11;

    private static final int TRAYS = 4;
    private static final int TRAY_LENGTH = 60;
    private static final int TAPE_LENGTH = 900;
    private static final int ORDERS_LENGTH = 300;
    private static final int FED_BYTES = 20;
    private static final int MARKS = 3;

    // Cells lie in a square of 6 by 6 whatever the yard's size: cell x, y is y * SIDE + x.
    private static final int SIDE = 6;
    private static final int CELLS = 36;
    private static final int FULL = 99;
    private static final int NO_LIMIT = 1000000;
    private static final int LAST_DAY = 999;
    private static final int MOST_AT_ONCE = 40;
    private static final int HALF_CELLS = 18;
    private static final int PEACEFUL_COST = 4;
    private static final int LAST_SEED = 9999;
    private static final int MOST_SEEDS = 20;
    private static final int LASTING_DAYS = 30;

    private static final int WALL_ARTICLE = 0;
    private static final int BUILD_ARTICLE = 1;
    private static final int STEAL_ARTICLE = 2;
    private static final int ICE_ARTICLE = 3;

    // Words are known by their letters as digits by 27.
    private static final int LETTER_CODES = 27;

    private static final int GAME_TOP = 12;
    private static final int GAME_ROW = 13;
    private static final int GAME_STATES = 169;

    private int status;
    private final Tray[] trays = {new Tray(), new Tray(), new Tray(), new Tray()};
    private final Reader reader = new Reader();
    private final YardText yardText = new YardText(reader);
    private final OrdersText ordersText = new OrdersText(reader);
    private Yard yard = new Yard();
    private Yard spareYard = new Yard();
    private Orders orders = new Orders();
    private Orders spareOrders = new Orders();
    private final Yard[] markedYards = {new Yard(), new Yard(), new Yard()};
    private final Orders[] markedOrders = {new Orders(), new Orders(), new Orders()};
    private int marks;
    private final Walk walk = new Walk();
    private final Mornings mornings = new Mornings();
    private final Odds odds = new Odds();
    private final boolean[] winning = new boolean[GAME_STATES];
    private final Runner latestRun = new Runner();
    private final Runner trialRun = new Runner();

    public SnowForts() {
    }

    public int status() {
        return status;
    }

    public long top() {
        return odds.upper;
    }

    public long bottom() {
        return odds.lower;
    }

    // ---- what a call says of itself

    private int refuse(int why) {
        status = why;
        return NONE;
    }

    private boolean deny(int why) {
        status = why;
        return false;
    }

    private int answer(int value) {
        status = FINE;
        return value;
    }

    private boolean grant() {
        status = FINE;
        return true;
    }

    private static boolean isWithin(long value, int low, int high) {
        return value >= low && value <= high;
    }

    // ---- TRAYS

    private static boolean isTray(int tray) {
        return isWithin(tray, 0, TRAYS - 1);
    }

    /** Why a place of a tray can't be used, or FINE. */
    private int whyNotPlace(int tray, int place) {
        if (!isTray(tray)) {
            return NO_TRAY;
        }
        if (trays[tray].isMissing()) {
            return TRAY_MISSING;
        }
        return trays[tray].hasPlace(place) ? FINE : NO_PLACE;
    }

    public boolean tray(int tray, int sort, int many) {
        if (!isTray(tray) || !isWithin(sort, 0, 3)) {
            return deny(NO_TRAY);
        }
        if (many > TRAY_LENGTH) {
            return deny(BAD_NUMBER);
        }
        if (many < 0) {
            return deny(BELOW_ZERO);
        }
        trays[tray].become(sort, many);
        return grant();
    }

    public boolean write(int tray, int place, long v) {
        int why = whyNotPlace(tray, place);
        if (why != FINE || !isTray(tray)) {
            return deny(why);
        }
        trays[tray].put(place, v);
        return grant();
    }

    public long read(int tray, int place) {
        int why = whyNotPlace(tray, place);
        if (why != FINE || !isTray(tray)) {
            return refuse(why);
        }
        status = FINE;
        return trays[tray].numberAt(place);
    }

    public boolean pour(int tray, int i, int to, int j, int many) {
        if (!isTray(tray) || !isTray(to)) {
            return deny(NO_TRAY);
        }
        Tray source = trays[tray];
        Tray goal = trays[to];
        if (source.isMissing() || goal.isMissing()) {
            return deny(TRAY_MISSING);
        }
        if (source.sort != goal.sort) {
            return deny(UNLIKE_SORTS);
        }
        if (many < 0) {
            return deny(BELOW_ZERO);
        }
        if (!source.hasRow(i, many) || !goal.hasRow(j, many)) {
            return deny(NO_PLACE);
        }
        System.arraycopy(source.numbers, i, goal.numbers, j, many);
        return grant();
    }

    // ---- texts

    public int feed(int a, int b, int c, int d, int e) {
        if (reader.filled > TAPE_LENGTH - FED_BYTES) {
            return NONE;
        }
        reader.append(a);
        reader.append(b);
        reader.append(c);
        reader.append(d);
        reader.append(e);
        return reader.filled;
    }

    public int yard(int n) {
        if (!isWithin(n, 0, reader.filled)) {
            return refuse(BAD_NUMBER);
        }
        boolean taken = yardText.parse(n, spareYard);
        reader.filled = 0;
        if (!taken) {
            return refuse(FAULTY);
        }
        Yard old = yard;
        yard = spareYard;
        spareYard = old;
        orders.clear();
        return answer(yard.wide * yard.high);
    }

    public int orders(int n) {
        if (!isWithin(n, 0, reader.filled) || n > ORDERS_LENGTH) {
            return refuse(BAD_NUMBER);
        }
        boolean taken = ordersText.parse(n, yard, spareOrders);
        reader.filled = 0;
        if (!taken) {
            return refuse(FAULTY);
        }
        Orders old = orders;
        orders = spareOrders;
        spareOrders = old;
        return answer(orders.steps);
    }

    public int fault(int what) {
        if (what == 0) {
            return reader.fault;
        }
        return what == 1 ? reader.faultPlace : NONE;
    }

    public int many(int what) {
        if (!isWithin(what, 0, 9)) {
            return refuse(BAD_NUMBER);
        }
        return answer(yard.tell(what));
    }

    public int cell(int x, int y, int what) {
        if (!yard.isCell(x, y)) {
            return refuse(NO_CELL);
        }
        if (!isWithin(what, 0, 5)) {
            return refuse(BAD_NUMBER);
        }
        return answer(yard.tellCell(y * SIDE + x, what));
    }

    public int school(int school, int what) {
        if (!yard.isSchool(school)) {
            return refuse(NO_CELL);
        }
        if (!isWithin(what, 0, 4)) {
            return refuse(BAD_NUMBER);
        }
        return answer(yard.tellSchool(school, what));
    }

    public int article(int kind) {
        if (!isWithin(kind, 0, 3)) {
            return refuse(BAD_NUMBER);
        }
        int says = yard.articles[kind];
        return says == NONE ? refuse(THERE_IS_NONE) : answer(says);
    }

    public int breach(int what) {
        if (!isWithin(what, 0, 4)) {
            return refuse(BAD_NUMBER);
        }
        return yard.allBreaches() == 0 ? refuse(THERE_IS_NONE) : answer(yard.first[what]);
    }

    // ---- days

    public int fall(int n) {
        return isWithin(n, 0, MOST_AT_ONCE) ? answer(yard.snowFalls(n)) : refuse(BAD_NUMBER);
    }

    public int thaw(int n) {
        return isWithin(n, 0, MOST_AT_ONCE) ? answer(yard.melts(n)) : refuse(BAD_NUMBER);
    }

    public int build(int x, int y, int n) {
        if (!yard.isOwned(x, y)) {
            return refuse(NO_CELL);
        }
        if (!isWithin(n, 1, MOST_AT_ONCE)) {
            return refuse(BAD_NUMBER);
        }
        int units = yard.raises(y * SIDE + x, n);
        return units == 0 ? refuse(IT_CANNOT_BE) : answer(units);
    }

    public boolean ice(int x, int y) {
        if (!yard.isOwned(x, y)) {
            return deny(NO_CELL);
        }
        return yard.freezes(y * SIDE + x) ? grant() : deny(IT_CANNOT_BE);
    }

    public int steal(int x, int y, int fromX, int fromY, int n) {
        if (!yard.isOwned(x, y) || !yard.isCell(fromX, fromY)) {
            return refuse(NO_CELL);
        }
        if (!isWithin(n, 1, MOST_AT_ONCE)) {
            return refuse(BAD_NUMBER);
        }
        int units = yard.takes(y * SIDE + x, fromY * SIDE + fromX, n);
        return units == 0 ? refuse(IT_CANNOT_BE) : answer(units);
    }

    public int night() {
        return yard.sleeps() ? answer(yard.day) : refuse(ONE_TOO_MANY);
    }

    // ---- the treaty

    private static boolean isHalf(int half) {
        return half == 0 || half == 1;
    }

    public int room(int x, int y) {
        return yard.isOwned(x, y) ? answer(yard.roomAt(y * SIDE + x)) : refuse(NO_CELL);
    }

    public int most(int school) {
        return yard.isSchool(school) ? answer(yard.mostOf(school)) : refuse(NO_CELL);
    }

    public int lowest(int half) {
        return isHalf(half) ? answer(yard.lowestTop(half)) : refuse(BAD_NUMBER);
    }

    public int highest(int half) {
        return isHalf(half) ? answer(yard.highestTop(half)) : refuse(BAD_NUMBER);
    }

    public int steepest() {
        return answer(yard.steepestStep());
    }

    public int level(int half) {
        if (!isHalf(half)) {
            return refuse(BAD_NUMBER);
        }
        int moved = yard.movedToLevel(half);
        return moved == NONE ? refuse(IT_CANNOT_BE) : answer(moved);
    }

    public int unlike() {
        return answer(yard.unlikeCouples());
    }

    public int lasting(int school, int days, int n) {
        if (!yard.isSchool(school)) {
            return refuse(NO_CELL);
        }
        if (!isWithin(days, 0, LASTING_DAYS) || !isWithin(n, 0, MOST_AT_ONCE)) {
            return refuse(BAD_NUMBER);
        }
        return answer(yard.lastingWalls(school, days, n));
    }

    // ---- the WAY over

    public int way() {
        int cost = walk.costOver(yard);
        walk.trace(yard);
        return answer(cost);
    }

    public int wayAt(int k, int what) {
        if (!isWithin(what, 0, 1)) {
            return refuse(BAD_NUMBER);
        }
        if (!isWithin(k, 0, walk.traced - 1) || k >= CELLS) {
            return refuse(THERE_IS_NONE);
        }
        int cell = walk.path[k];
        return answer(what == 0 ? cell % SIDE : cell / SIDE);
    }

    private boolean isPeace() {
        return walk.costOver(yard) <= PEACEFUL_COST;
    }

    public int peace() {
        return answer(isPeace() ? 1 : 0);
    }

    // ---- ice

    public int look(int x, int y) {
        if (!yard.isCell(x, y)) {
            return refuse(NO_CELL);
        }
        return answer(yard.looksAt(y * SIDE + x) ? 1 : 0);
    }

    public int hiding(int half) {
        return isHalf(half) ? answer(yard.hidingCells(half)) : refuse(BAD_NUMBER);
    }

    public int sure(int half, int iced) {
        if (!isHalf(half) || !isWithin(iced, 1, HALF_CELLS)) {
            return refuse(BAD_NUMBER);
        }
        int hidden = yard.hidingCells(half);
        return iced > hidden ? refuse(IT_CANNOT_BE) : answer(hidden - iced + 1);
    }

    // ---- mornings

    public long works(int tray, int thaws, int many) {
        if (!isTray(tray) || !isTray(thaws)) {
            return refuse(NO_TRAY);
        }
        Tray heights = trays[tray];
        Tray melts = trays[thaws];
        if (heights.isMissing() || melts.isMissing()) {
            return refuse(TRAY_MISSING);
        }
        if (heights.length < many || melts.length < many - 1L) {
            return refuse(NO_PLACE);
        }
        if (!isWithin(many, 2, 12) || !heights.holdsWithin(many, FULL) || !melts.holdsWithin(many - 1, 20)) {
            return refuse(BAD_NUMBER);
        }
        mornings.explain(heights, melts, many);
        status = FINE;
        return mornings.rows;
    }

    public int worked(int what) {
        if (!isWithin(what, 0, 2)) {
            return refuse(BAD_NUMBER);
        }
        if (mornings.rows == 0) {
            return refuse(THERE_IS_NONE);
        }
        if (what == 0) {
            return answer(mornings.fewest);
        }
        return answer(what == 1 ? mornings.greatest : mornings.hardest);
    }

    // ---- the GAME

    private static boolean isGame(int a, int b, int m, int k) {
        return isWithin(a, 0, GAME_TOP) && isWithin(b, 0, GAME_TOP) && isWithin(m, 1, 4) && isWithin(k, 0, 4);
    }

    /** How high a wall may become in one turn. */
    private static int raisedTo(int own, int other, int m, int k) {
        return Math.min(GAME_TOP, Math.min(own + m, other + k));
    }

    /** The least raise that leaves the other one a lost game, 0 without one. */
    private int winningRaise(int own, int other, int m, int k) {
        int limit = raisedTo(own, other, m, k);
        for (int to = own + 1; to <= limit; to++) {
            int state = other * GAME_ROW + to;
            if (isWithin(state, 0, GAME_STATES - 1) && !winning[state]) {
                return to - own;
            }
        }
        return 0;
    }

    public int wins(int a, int b, int m, int k) {
        if (!isGame(a, b, m, k)) {
            return refuse(BAD_NUMBER);
        }
        // Each turn makes the two walls higher together, so the highest are judged first.
        for (int sum = 2 * GAME_TOP; sum >= 0; sum--) {
            for (int own = 0; own <= GAME_TOP; own++) {
                int other = sum - own;
                if (isWithin(other, 0, GAME_TOP)) {
                    winning[own * GAME_ROW + other] = winningRaise(own, other, m, k) > 0;
                }
            }
        }
        return answer(winningRaise(a, b, m, k));
    }

    public int turns(int a, int b, int m, int k) {
        if (!isGame(a, b, m, k)) {
            return refuse(BAD_NUMBER);
        }
        int own = a;
        int other = b;
        int turns = 0;
        while (turns < 2 * GAME_TOP && raisedTo(own, other, m, k) > own) {
            int raised = raisedTo(own, other, m, k);
            own = other;
            other = raised;
            turns++;
        }
        return answer(turns);
    }

    // ---- odds

    /** Why the odds of a wall can't be told, or FINE; if they can, they stand in odds. */
    private int weigh(int wall, int days, int tray) {
        if (!isTray(tray)) {
            return NO_TRAY;
        }
        Tray sixteenths = trays[tray];
        if (sixteenths.isMissing()) {
            return TRAY_MISSING;
        }
        if (sixteenths.length < 4) {
            return NO_PLACE;
        }
        if (!isWithin(wall, 1, FULL) || !isWithin(days, 1, 8) || !odds.canBe(sixteenths)) {
            return BAD_NUMBER;
        }
        odds.spread(wall, days, sixteenths);
        return FINE;
    }

    public boolean stands(int wall, int days, int tray) {
        int why = weigh(wall, days, tray);
        if (why != FINE) {
            return deny(why);
        }
        odds.tellStanding();
        return grant();
    }

    public boolean mean(int wall, int days, int tray) {
        int why = weigh(wall, days, tray);
        if (why != FINE) {
            return deny(why);
        }
        odds.tellMean();
        return grant();
    }

    // ---- ORDERS

    public int run(int seed) {
        if (!isWithin(seed, 0, LAST_SEED)) {
            return refuse(BAD_NUMBER);
        }
        if (!orders.given) {
            return refuse(THERE_IS_NONE);
        }
        latestRun.perform(orders, yard, walk, seed);
        return answer(latestRun.done);
    }

    public int ran(int what) {
        if (!isWithin(what, 0, 3)) {
            return refuse(BAD_NUMBER);
        }
        return latestRun.done == NONE ? refuse(THERE_IS_NONE) : answer(latestRun.tell(what));
    }

    public boolean peaces(int seed, int many) {
        if (!isWithin(seed, 0, LAST_SEED) || !isWithin(many, 1, MOST_SEEDS) || seed + many - 1 > LAST_SEED) {
            return deny(BAD_NUMBER);
        }
        if (!orders.given) {
            return deny(THERE_IS_NONE);
        }
        spareYard.copyOf(yard);
        int peaceful = 0;
        for (int i = 0; i < many; i++) {
            trialRun.perform(orders, yard, walk, seed + i);
            peaceful += isPeace() ? 1 : 0;
            yard.copyOf(spareYard);
        }
        odds.tellFraction(peaceful, many);
        return grant();
    }

    // ---- MARKS

    public int mark() {
        if (!isWithin(marks, 0, MARKS - 1)) {
            return refuse(ONE_TOO_MANY);
        }
        markedYards[marks].copyOf(yard);
        markedOrders[marks].copyOf(orders);
        marks++;
        return answer(marks);
    }

    public int back() {
        if (!isWithin(marks, 1, MARKS)) {
            return refuse(THERE_IS_NONE);
        }
        marks--;
        yard.copyOf(markedYards[marks]);
        orders.copyOf(markedOrders[marks]);
        return answer(marks);
    }

    /** A row of numbers of one sort; one room for all lengths, so that none is made anew. */
    private static final class Tray {
        final long[] numbers = new long[TRAY_LENGTH];
        int sort;
        int length = NONE;

        boolean isMissing() {
            return length < 0;
        }

        boolean hasPlace(int place) {
            return place >= 0 && place < length && place < TRAY_LENGTH;
        }

        boolean hasRow(int from, int count) {
            return from >= 0 && from <= length && count <= length - from;
        }

        void become(int newSort, int newLength) {
            sort = newSort;
            length = newLength;
            Arrays.fill(numbers, 0L);
        }

        void put(int place, long v) {
            if (hasPlace(place)) {
                numbers[place] = cut(v);
            }
        }

        private long cut(long v) {
            switch (sort) {
                case 0:
                    return (byte) v;
                case 1:
                    return (short) v;
                case 2:
                    return (int) v;
                default:
                    return v;
            }
        }

        long numberAt(int place) {
            return hasPlace(place) ? numbers[place] : NONE;
        }

        /** Whether the first so many numbers are 0 to a limit. */
        boolean holdsWithin(int count, int limit) {
            for (int i = 0; i < count; i++) {
                if (!hasPlace(i) || !isWithin(numbers[i], 0, limit)) {
                    return false;
                }
            }
            return true;
        }
    }

    /** The words that no school may have for a name. */
    private enum Word {
        WIDE("wide"), HIGH("high"), SCHOOL("school"), HANDS("hands"), SNOW("snow"), DEEP("deep"),
        WALL("wall"), TALL("tall"), SUN("sun"), BY("by"), NO("no"), ABOVE("above"), BUILD("build"),
        BEHIND("behind"), STEAL("steal"), ICE("ice"), FALL("fall"), THAW("thaw"), STORM("storm"),
        TO("to"), NIGHT("night"), FROM("from"), WHEN("when"), DAY("day"), BREACH("breach"),
        WAY("way"), LOOP("loop"), END("end"), STOP("stop");

        private static final Word[] ALL = values();

        /** The letters as a number, as the reader makes it of a word. */
        final long letters;

        Word(String text) {
            long code = 0;
            for (int i = 0; i < text.length(); i++) {
                code = code * LETTER_CODES + text.charAt(i) - 'a' + 1;
            }
            letters = code;
        }

        static Word of(long letters) {
            for (Word each : ALL) {
                if (each.letters == letters) {
                    return each;
                }
            }
            return null;
        }
    }

    /** The tape, the tokens of a text on it, and its first fault. */
    private static final class Reader {
        static final int END = 0;
        static final int NO_TOKEN = 1;
        static final int WORD = 2;
        static final int NUMBER = 3;
        static final int LONGEST_NUMBER = 4;
        static final int LONGEST_NAME = 8;
        static final int CANNOT_STAND = 2;
        static final int BAD_VALUE = 4;
        static final int TOKENS = TAPE_LENGTH + 1;

        final byte[] tape = new byte[TAPE_LENGTH];
        int filled;
        /** Of each token: one of the four kinds above, or a sign's own number. */
        private final int[] kinds = new int[TOKENS];
        private final int[] places = new int[TOKENS];
        /** Of a number how much it is, of a word its letters as a number (0 if it is too long for a name). */
        private final long[] values = new long[TOKENS];
        private final Word[] words = new Word[TOKENS];
        private int length;
        private int next;
        private int token;
        int kind;
        int place;
        long value;
        /** Which of the known words the token is, null if none. */
        Word word;
        /** The latest number that was taken, and its place. */
        int number;
        int numberPlace;
        /** Of the latest text that was read: 0, NONE without a fault; NONE ahead of any. */
        int fault = NONE;
        int faultPlace = NONE;

        void append(int four) {
            for (int shift = 24; shift >= 0; shift -= 8) {
                if (filled >= 0 && filled < TAPE_LENGTH) {
                    tape[filled] = (byte) (four >> shift);
                    filled++;
                }
            }
        }

        /** Finds the tokens of the tape's first n bytes, and stands at the first one. */
        void start(int n) {
            fault = 0;
            faultPlace = NONE;
            length = Math.min(n, TAPE_LENGTH);
            next = 0;
            // The last token of all is the end, which has no bytes.
            boolean ended = false;
            for (int i = 0; i < TOKENS && !ended; i++) {
                passBlanks();
                places[i] = next;
                values[i] = 0;
                words[i] = null;
                kinds[i] = kindHere();
                ended = kinds[i] == END;
                if (kinds[i] == WORD) {
                    values[i] = passWord();
                    words[i] = Word.of(values[i]);
                } else if (kinds[i] == NUMBER) {
                    values[i] = passNumber();
                    kinds[i] = next - places[i] > LONGEST_NUMBER ? NO_TOKEN : NUMBER;
                } else {
                    next++;
                }
            }
            token = NONE;
            advance();
        }

        private int byteAt(int at) {
            return at >= 0 && at < length && at < TAPE_LENGTH ? tape[at] : NONE;
        }

        private static boolean isLetter(int sign) {
            return sign >= 'a' && sign <= 'z';
        }

        private static boolean isDigit(int sign) {
            return sign >= '0' && sign <= '9';
        }

        private void passBlanks() {
            while (next < length && (byteAt(next) == 10 || byteAt(next) == 32)) {
                next++;
            }
        }

        private int kindHere() {
            if (next >= length) {
                return END;
            }
            int sign = byteAt(next);
            if (isLetter(sign)) {
                return WORD;
            }
            if (isDigit(sign)) {
                return NUMBER;
            }
            return sign >= ';' && sign <= '>' ? sign : NO_TOKEN;
        }

        private long passWord() {
            int begin = next;
            long letters = 0;
            while (next < length && isLetter(byteAt(next))) {
                letters = letters * LETTER_CODES + byteAt(next) - 'a' + 1;
                next++;
            }
            return next - begin > LONGEST_NAME ? 0 : letters;
        }

        private int passNumber() {
            int begin = next;
            int digits = 0;
            while (next < length && isDigit(byteAt(next))) {
                if (next - begin < LONGEST_NUMBER) {
                    digits = digits * 10 + byteAt(next) - '0';
                }
                next++;
            }
            return digits;
        }

        void advance() {
            token = Math.min(token + 1, TOKENS - 1);
            if (token >= 0) {
                kind = kinds[token];
                place = places[token];
                value = values[token];
                word = words[token];
            }
        }

        boolean fail(int why, int where) {
            fault = why;
            faultPlace = where;
            return false;
        }

        /** The token can't stand here. */
        boolean misfit() {
            fault = kind == NO_TOKEN ? NO_TOKEN : CANNOT_STAND;
            faultPlace = place;
            return false;
        }

        boolean take(Word wanted) {
            if (word != wanted) {
                return misfit();
            }
            advance();
            return true;
        }

        boolean takeSign(int sign) {
            if (kind != sign) {
                return misfit();
            }
            advance();
            return true;
        }

        boolean takeNumber(int low, int high) {
            if (kind != NUMBER) {
                return misfit();
            }
            if (!isWithin(value, low, high)) {
                return fail(BAD_VALUE, place);
            }
            number = (int) value;
            numberPlace = place;
            advance();
            return true;
        }

        boolean isName() {
            return kind == WORD && word == null && value != 0;
        }
    }

    /** The yard with all that became of it. */
    private static final class Yard {
        int wide = 2;
        int high = 1;
        int schools;
        int day;
        int melted;
        int ranOff;
        int fell;
        final int[] hands = new int[2];
        final int[] used = new int[2];
        final int[] broken = new int[2];
        /** What each article says, NONE without one. */
        final int[] articles = {NONE, NONE, NONE, NONE};
        /** The first breach: school, article, day, x, y. */
        final int[] first = new int[5];
        final int[] snow = new int[CELLS];
        final int[] wall = new int[CELLS];
        final int[] sun = new int[CELLS];
        final int[] lastWall = new int[CELLS];
        /** 1 where a wall is iced, where a look made known whether it is; else 0. */
        final int[] iced = new int[CELLS];
        final int[] known = new int[CELLS];

        void clear() {
            wide = 2;
            high = 1;
            schools = 0;
            day = 0;
            melted = 0;
            ranOff = 0;
            fell = 0;
            Arrays.fill(hands, 0);
            Arrays.fill(used, 0);
            Arrays.fill(broken, 0);
            Arrays.fill(articles, NONE);
            Arrays.fill(first, 0);
            Arrays.fill(snow, 0);
            Arrays.fill(wall, 0);
            Arrays.fill(sun, 0);
            Arrays.fill(lastWall, 0);
            Arrays.fill(iced, 0);
            Arrays.fill(known, 0);
        }

        void copyOf(Yard other) {
            wide = other.wide;
            high = other.high;
            schools = other.schools;
            day = other.day;
            melted = other.melted;
            ranOff = other.ranOff;
            fell = other.fell;
            System.arraycopy(other.hands, 0, hands, 0, 2);
            System.arraycopy(other.used, 0, used, 0, 2);
            System.arraycopy(other.broken, 0, broken, 0, 2);
            System.arraycopy(other.articles, 0, articles, 0, 4);
            System.arraycopy(other.first, 0, first, 0, 5);
            System.arraycopy(other.snow, 0, snow, 0, CELLS);
            System.arraycopy(other.wall, 0, wall, 0, CELLS);
            System.arraycopy(other.sun, 0, sun, 0, CELLS);
            System.arraycopy(other.lastWall, 0, lastWall, 0, CELLS);
            System.arraycopy(other.iced, 0, iced, 0, CELLS);
            System.arraycopy(other.known, 0, known, 0, CELLS);
        }

        boolean isCell(int x, int y) {
            return x >= 0 && x < wide && x < SIDE && y >= 0 && y < high && y < SIDE;
        }

        private boolean holds(int cell) {
            return cell >= 0 && cell < CELLS && isCell(cell % SIDE, cell / SIDE);
        }

        boolean isSchool(int school) {
            return school >= 0 && school < schools && school < 2;
        }

        int halfOfColumn(int x) {
            return x < wide / 2 ? 0 : 1;
        }

        private int halfOf(int cell) {
            return cell % SIDE < wide / 2 ? 0 : 1;
        }

        private boolean isIn(int half, int cell) {
            int x = cell % SIDE;
            boolean isLeft = x < wide / 2;
            return x < wide && cell / SIDE < high && isLeft == (half == 0);
        }

        boolean isOwned(int x, int y) {
            return isCell(x, y) && isSchool(halfOfColumn(x));
        }

        private int across(int cell) {
            int other = cell - cell % SIDE + wide - 1 - cell % SIDE;
            return other >= 0 && other < CELLS ? other : 0;
        }

        int topOf(int cell) {
            return cell >= 0 && cell < CELLS ? snow[cell] + wall[cell] : 0;
        }

        int wallOf(int cell) {
            return cell >= 0 && cell < CELLS ? wall[cell] : 0;
        }

        // ---- what there is

        int allBreaches() {
            return broken[0] + broken[1];
        }

        private static int sumOf(int[] row) {
            int sum = 0;
            for (int each : row) {
                sum += each;
            }
            return sum;
        }

        int tell(int what) {
            switch (what) {
                case 0:
                    return wide;
                case 1:
                    return high;
                case 2:
                    return schools;
                case 3:
                    return day;
                case 4:
                    return allBreaches();
                case 5:
                    return sumOf(snow);
                case 6:
                    return sumOf(wall);
                case 7:
                    return melted;
                case 8:
                    return ranOff;
                default:
                    return fell;
            }
        }

        int tellCell(int cell, int what) {
            if (!holds(cell)) {
                return NONE;
            }
            switch (what) {
                case 0:
                    return snow[cell];
                case 1:
                    return wall[cell];
                case 2:
                    return sun[cell];
                case 3:
                    return lastWall[cell];
                case 4:
                    return halfOf(cell);
                default:
                    return iced[cell];
            }
        }

        int tellSchool(int school, int what) {
            if (!isSchool(school)) {
                return NONE;
            }
            switch (what) {
                case 0:
                    return hands[school];
                case 1:
                    return used[school];
                case 2:
                    return broken[school];
                case 3:
                    return icedCells(school);
                default:
                    return wallsOf(school);
            }
        }

        private int icedCells(int half) {
            int count = 0;
            for (int cell = 0; cell < CELLS; cell++) {
                count += isIn(half, cell) ? iced[cell] : 0;
            }
            return count;
        }

        private int wallsOf(int half) {
            int sum = 0;
            for (int cell = 0; cell < CELLS; cell++) {
                if (isIn(half, cell)) {
                    sum += wall[cell];
                }
            }
            return sum;
        }

        // ---- days

        int snowFalls(int n) {
            int over = 0;
            for (int cell = 0; cell < CELLS; cell++) {
                if (holds(cell)) {
                    fell += n;
                    over += heaps(cell, n);
                }
            }
            return over;
        }

        /** So much snow more comes to a cell: how much of it runs off. */
        private int heaps(int cell, int n) {
            int over = Math.max(0, snow[cell] + n - FULL);
            snow[cell] += n - over;
            ranOff += over;
            return over;
        }

        int melts(int n) {
            int all = 0;
            for (int cell = 0; cell < CELLS; cell++) {
                if (holds(cell)) {
                    all += meltsAt(cell, n + sun[cell]);
                }
            }
            melted += all;
            return all;
        }

        private int meltsAt(int cell, int n) {
            int ofSnow = Math.min(n, snow[cell]);
            int ofWall = iced[cell] == 1 ? 0 : Math.min(n - ofSnow, wall[cell]);
            snow[cell] -= ofSnow;
            wall[cell] -= ofWall;
            iced[cell] = 0;
            known[cell] = 0;
            return ofSnow + ofWall;
        }

        private int handsLeft(int half) {
            return Math.max(0, hands[half] - used[half]);
        }

        /** Builds: how many units. */
        int raises(int cell, int n) {
            if (!holds(cell)) {
                return 0;
            }
            int half = halfOf(cell);
            int units = Math.min(Math.min(n, handsLeft(half)), Math.min(snow[cell], FULL - wall[cell]));
            int limit = wallLimit(cell);
            for (int i = 0; i < units; i++) {
                raisesOne(cell, half, limit);
            }
            if (units > 0) {
                known[cell] = 0;
            }
            return units;
        }

        private void raisesOne(int cell, int half, int limit) {
            if (wall[cell] >= limit) {
                breaks(half, WALL_ARTICLE, cell);
            }
            if (lawfulHands(half) == 0) {
                breaks(half, BUILD_ARTICLE, cell);
            }
            snow[cell]--;
            wall[cell]++;
            used[half]++;
        }

        private void breaks(int half, int article, int cell) {
            if (broken[0] + broken[1] == 0) {
                first[0] = half;
                first[1] = article;
                first[2] = day;
                first[3] = cell % SIDE;
                first[4] = cell / SIDE;
            }
            broken[half]++;
        }

        boolean freezes(int cell) {
            if (!holds(cell)) {
                return false;
            }
            int half = halfOf(cell);
            if (wall[cell] < 1 || iced[cell] == 1 || handsLeft(half) < 2) {
                return false;
            }
            iced[cell] = 1;
            known[cell] = 0;
            used[half] += 2;
            int limit = articles[ICE_ARTICLE];
            if (limit != NONE && icedCells(half) > limit) {
                breaks(half, ICE_ARTICLE, cell);
            }
            return true;
        }

        /** Steals: how much snow; none within one half. */
        int takes(int cell, int from, int n) {
            if (!holds(cell) || !holds(from) || halfOf(cell) == halfOf(from)) {
                return 0;
            }
            int half = halfOf(cell);
            int units = Math.min(Math.min(n, 2 * handsLeft(half)), snow[from]);
            if (units <= 0) {
                return 0;
            }
            int busy = (units + 1) / 2;
            for (int i = 0; i < busy && articles[STEAL_ARTICLE] != NONE; i++) {
                breaks(half, STEAL_ARTICLE, from);
            }
            used[half] += busy;
            snow[from] -= units;
            heaps(cell, units);
            known[cell] = 0;
            known[from] = 0;
            return units;
        }

        boolean sleeps() {
            if (day >= LAST_DAY) {
                return false;
            }
            day++;
            Arrays.fill(used, 0);
            System.arraycopy(wall, 0, lastWall, 0, CELLS);
            return true;
        }

        // ---- the treaty

        /** How high the treaty lets a wall be. */
        private int wallLimit(int cell) {
            int more = articles[WALL_ARTICLE];
            return more == NONE ? NO_LIMIT : lastWall[across(cell)] + more;
        }

        /** With how many hands more the treaty lets a school build today. */
        private int lawfulHands(int half) {
            int limit = articles[BUILD_ARTICLE];
            return limit == NONE ? NO_LIMIT : Math.max(0, limit - used[half]);
        }

        /** How many units a cell takes without a breach, whatever the hands. */
        private int fitsIn(int cell) {
            int height = Math.min(FULL, wallLimit(cell));
            return Math.max(0, Math.min(snow[cell], height - wall[cell]));
        }

        int roomAt(int cell) {
            return holds(cell) ? Math.min(fitsIn(cell), lawfulHands(halfOf(cell))) : 0;
        }

        int mostOf(int school) {
            if (!isSchool(school)) {
                return 0;
            }
            int sum = 0;
            for (int cell = 0; cell < CELLS; cell++) {
                if (isIn(school, cell)) {
                    sum += fitsIn(cell);
                }
            }
            return Math.min(sum, Math.min(handsLeft(school), lawfulHands(school)));
        }

        int lowestTop(int half) {
            int least = NO_LIMIT;
            for (int cell = 0; cell < CELLS; cell++) {
                if (isIn(half, cell)) {
                    least = Math.min(least, topOf(cell));
                }
            }
            return least;
        }

        int highestTop(int half) {
            int greatest = 0;
            for (int cell = 0; cell < CELLS; cell++) {
                if (isIn(half, cell)) {
                    greatest = Math.max(greatest, topOf(cell));
                }
            }
            return greatest;
        }

        int steepestStep() {
            int steepest = 0;
            for (int cell = 0; cell < CELLS; cell++) {
                if (holds(cell)) {
                    steepest = Math.max(steepest, Math.max(stepTo(cell, 1, 0), stepTo(cell, 0, 1)));
                }
            }
            return steepest;
        }

        private int stepTo(int cell, int right, int down) {
            if (!isCell(cell % SIDE + right, cell / SIDE + down)) {
                return 0;
            }
            return Math.abs(topOf(cell) - topOf(cell + right + down * SIDE));
        }

        /** How much snow must go so that the half is level, NONE where it can't be. */
        int movedToLevel(int half) {
            int cells = wide / 2 * high;
            if (cells < 1) {
                return NONE;
            }
            int sum = 0;
            for (int cell = 0; cell < CELLS; cell++) {
                sum += isIn(half, cell) ? topOf(cell) : 0;
            }
            return movedTo(half, sum / cells, sum % cells);
        }

        /** The same if all tops become low, but so many of them one more. */
        private int movedTo(int half, int low, int higher) {
            int moved = 0;
            int mustBeHigher = 0;
            int mayBeHigher = 0;
            int gladlyHigher = 0;
            for (int cell = 0; cell < CELLS; cell++) {
                if (!isIn(half, cell)) {
                    continue;
                }
                boolean canBeLow = canBecome(cell, low);
                boolean canBeHigher = canBecome(cell, low + 1);
                int gives = Math.max(0, topOf(cell) - low);
                moved += gives;
                if (!canBeLow && !canBeHigher) {
                    return NONE;
                }
                if (!canBeLow) {
                    mustBeHigher++;
                    moved--;
                } else if (canBeHigher) {
                    mayBeHigher++;
                    gladlyHigher += gives > 0 ? 1 : 0;
                }
            }
            if (higher < mustBeHigher || higher > mustBeHigher + mayBeHigher) {
                return NONE;
            }
            return moved - Math.min(higher - mustBeHigher, gladlyHigher);
        }

        private boolean canBecome(int cell, int top) {
            return wall[cell] <= top && top - wall[cell] <= FULL;
        }

        int unlikeCouples() {
            int couples = 0;
            for (int cell = 0; cell < CELLS; cell++) {
                if (isIn(0, cell) && topOf(cell) != topOf(across(cell))) {
                    couples++;
                }
            }
            return couples;
        }

        /** The greatest thaws are the worst for each cell at once, so these alone are tried. */
        int lastingWalls(int half, int days, int n) {
            int sum = 0;
            for (int cell = 0; cell < CELLS; cell++) {
                if (isIn(half, cell)) {
                    sum += lastingWall(cell, days, n + sun[cell]);
                }
            }
            return sum;
        }

        private int lastingWall(int cell, int days, int eachDay) {
            int snowLeft = snow[cell];
            int wallLeft = wall[cell];
            for (int i = 0; i < days; i++) {
                int ofSnow = Math.min(eachDay, snowLeft);
                boolean isProtected = i == 0 && iced[cell] == 1;
                snowLeft -= ofSnow;
                wallLeft -= isProtected ? 0 : Math.min(eachDay - ofSnow, wallLeft);
            }
            return wallLeft;
        }

        // ---- ice

        boolean looksAt(int cell) {
            if (!holds(cell)) {
                return false;
            }
            known[cell] = 1;
            return iced[cell] == 1;
        }

        int hidingCells(int half) {
            int count = 0;
            for (int cell = 0; cell < CELLS; cell++) {
                if (isIn(half, cell) && wall[cell] > 0 && known[cell] == 0) {
                    count++;
                }
            }
            return count;
        }
    }

    /** Reads a yard from the tape. */
    private static final class YardText {
        static final int NAME_TAKEN = 3;
        static final int TOLD_ALREADY = 5;
        static final int THIRD_SCHOOL = 6;

        private final Reader reader;
        private final int[] snowTold = new int[CELLS];
        private final int[] wallTold = new int[CELLS];
        private final int[] sunTold = new int[CELLS];
        private long firstName;

        YardText(Reader reader) {
            this.reader = reader;
        }

        boolean parse(int n, Yard into) {
            into.clear();
            Arrays.fill(snowTold, 0);
            Arrays.fill(wallTold, 0);
            Arrays.fill(sunTold, 0);
            reader.start(n);
            if (!takeSize(into)) {
                return false;
            }
            // Each part has one byte at least.
            for (int i = 0; i < TAPE_LENGTH && reader.kind != Reader.END; i++) {
                if (!takePart(into) || !reader.takeSign(';')) {
                    return false;
                }
            }
            System.arraycopy(into.wall, 0, into.lastWall, 0, CELLS);
            return true;
        }

        private boolean takeSize(Yard into) {
            if (!reader.take(Word.WIDE) || !reader.takeNumber(2, SIDE)) {
                return false;
            }
            if (reader.number % 2 != 0) {
                return reader.fail(Reader.BAD_VALUE, reader.numberPlace);
            }
            into.wide = reader.number;
            if (!reader.take(Word.HIGH) || !reader.takeNumber(1, SIDE)) {
                return false;
            }
            into.high = reader.number;
            return reader.takeSign(';');
        }

        private boolean takePart(Yard into) {
            if (reader.word == Word.SCHOOL) {
                return takeSchool(into);
            }
            if (reader.word == Word.SNOW) {
                return takeHeap(into, into.snow, snowTold, Word.DEEP, FULL);
            }
            if (reader.word == Word.WALL) {
                return takeHeap(into, into.wall, wallTold, Word.TALL, FULL);
            }
            if (reader.word == Word.SUN) {
                return takeHeap(into, into.sun, sunTold, Word.BY, 9);
            }
            return reader.take(Word.NO) && takeArticle(into);
        }

        private boolean takeSchool(Yard into) {
            int school = into.schools;
            if (!isWithin(school, 0, 1)) {
                return reader.fail(THIRD_SCHOOL, reader.place);
            }
            reader.advance();
            if (!reader.isName()) {
                return reader.misfit();
            }
            if (school == 0) {
                firstName = reader.value;
            } else if (firstName == reader.value) {
                return reader.fail(NAME_TAKEN, reader.place);
            }
            reader.advance();
            if (!reader.take(Word.HANDS) || !reader.takeNumber(0, MOST_AT_ONCE)) {
                return false;
            }
            into.hands[school] = reader.number;
            into.schools++;
            return true;
        }

        /** Snow, a wall or the sun of a cell: from the word on to how much. */
        private boolean takeHeap(Yard yard, int[] heaps, int[] told, Word before, int limit) {
            reader.advance();
            if (!reader.takeNumber(0, yard.wide - 1)) {
                return false;
            }
            int x = reader.number;
            if (!reader.takeNumber(0, yard.high - 1)) {
                return false;
            }
            int cell = reader.number * SIDE + x;
            if (!isWithin(cell, 0, CELLS - 1) || told[cell] != 0) {
                return reader.fail(TOLD_ALREADY, reader.numberPlace);
            }
            if (!reader.take(before) || !reader.takeNumber(0, limit)) {
                return false;
            }
            told[cell] = 1;
            heaps[cell] = reader.number;
            return true;
        }

        private boolean takeArticle(Yard into) {
            if (reader.word == Word.WALL) {
                return isNew(into, WALL_ARTICLE) && takeLimit(into, WALL_ARTICLE, Word.ABOVE, 20);
            }
            if (reader.word == Word.BUILD) {
                return isNew(into, BUILD_ARTICLE) && takeLimit(into, BUILD_ARTICLE, Word.BEHIND, MOST_AT_ONCE);
            }
            if (reader.word == Word.ICE) {
                return isNew(into, ICE_ARTICLE) && takeLimit(into, ICE_ARTICLE, Word.ABOVE, HALF_CELLS);
            }
            if (reader.word != Word.STEAL) {
                return reader.misfit();
            }
            if (!isNew(into, STEAL_ARTICLE)) {
                return false;
            }
            into.articles[STEAL_ARTICLE] = 0;
            reader.advance();
            return true;
        }

        private boolean isNew(Yard into, int article) {
            boolean told = !isWithin(article, 0, 3) || into.articles[article] != NONE;
            return !told || reader.fail(TOLD_ALREADY, reader.place);
        }

        private boolean takeLimit(Yard into, int article, Word before, int limit) {
            reader.advance();
            if (!reader.take(before) || !reader.takeNumber(0, limit) || !isWithin(article, 0, 3)) {
                return false;
            }
            into.articles[article] = reader.number;
            return true;
        }
    }

    /** Orders as a row of items: the steps, and the ends of those that hold others. */
    private static final class Orders {
        static final int MOST_STEPS = 30;
        static final int MOST_ITEMS = 60;

        static final int FALL = 0;
        static final int THAW = 1;
        static final int STORM = 2;
        static final int BUILD = 3;
        static final int ICE = 4;
        static final int STEAL = 5;
        static final int NIGHT = 6;
        static final int WHEN_DAY = 7;
        static final int WHEN_WALL = 8;
        static final int WHEN_BREACH = 9;
        static final int WHEN_WAY = 10;
        static final int LOOP = 11;
        static final int STOP = 12;
        static final int END = 13;

        boolean given;
        int items;
        int steps;
        final int[] kinds = new int[MOST_ITEMS];
        /** How much, how often, or what a test compares with. */
        final int[] amounts = new int[MOST_ITEMS];
        /** A storm's second number, or the sign by which a test compares. */
        final int[] seconds = new int[MOST_ITEMS];
        final int[] cells = new int[MOST_ITEMS];
        final int[] froms = new int[MOST_ITEMS];
        /** Of a when or a loop its end, of an end its when or loop. */
        final int[] partners = new int[MOST_ITEMS];

        void clear() {
            given = false;
            items = 0;
            steps = 0;
        }

        void copyOf(Orders other) {
            given = other.given;
            items = other.items;
            steps = other.steps;
            System.arraycopy(other.kinds, 0, kinds, 0, MOST_ITEMS);
            System.arraycopy(other.amounts, 0, amounts, 0, MOST_ITEMS);
            System.arraycopy(other.seconds, 0, seconds, 0, MOST_ITEMS);
            System.arraycopy(other.cells, 0, cells, 0, MOST_ITEMS);
            System.arraycopy(other.froms, 0, froms, 0, MOST_ITEMS);
            System.arraycopy(other.partners, 0, partners, 0, MOST_ITEMS);
        }

        static boolean isItem(int item) {
            return item >= 0 && item < MOST_ITEMS;
        }
    }

    /** Reads orders from the tape. */
    private static final class OrdersText {
        static final int TOO_MANY_STEPS = 6;
        static final int TOO_DEEP = 7;
        static final int DEEPEST = 3;

        private final Reader reader;
        /** The whens and loops that are not ended yet. */
        private final int[] openers = new int[DEEPEST];
        private int depth;
        /** The item that is being read. */
        private int item;

        OrdersText(Reader reader) {
            this.reader = reader;
        }

        boolean parse(int n, Yard yard, Orders into) {
            into.clear();
            depth = 0;
            reader.start(n);
            // Each step, each end has one byte at least.
            for (int i = 0; i < TAPE_LENGTH && reader.kind != Reader.END; i++) {
                boolean taken = reader.word == Word.END ? takeEnd(into) : takeStep(yard, into);
                if (!taken || !reader.takeSign(';')) {
                    return false;
                }
            }
            if (depth > 0) {
                return reader.misfit();
            }
            into.given = true;
            return true;
        }

        private boolean takeEnd(Orders into) {
            int end = into.items;
            if (!isWithin(depth, 1, DEEPEST) || !Orders.isItem(end)) {
                return reader.misfit();
            }
            depth--;
            int opener = openers[depth];
            if (!Orders.isItem(opener)) {
                return reader.misfit();
            }
            into.kinds[end] = Orders.END;
            into.partners[end] = opener;
            into.partners[opener] = end;
            into.items++;
            reader.advance();
            return true;
        }

        private boolean takeStep(Yard yard, Orders into) {
            Word word = reader.word;
            int kind = kindOf(word);
            if (kind == NONE) {
                return reader.misfit();
            }
            if (into.steps >= Orders.MOST_STEPS || !Orders.isItem(into.items)) {
                return reader.fail(TOO_MANY_STEPS, reader.place);
            }
            item = into.items;
            if (word == Word.WHEN || word == Word.LOOP) {
                if (!isWithin(depth, 0, DEEPEST - 1)) {
                    return reader.fail(TOO_DEEP, reader.place);
                }
                openers[depth] = item;
                depth++;
            }
            into.kinds[item] = kind;
            into.items++;
            into.steps++;
            reader.advance();
            return word == Word.WHEN ? takeTest(yard, into) : takeRest(kind, yard, into);
        }

        private static int kindOf(Word word) {
            if (word == Word.FALL) {
                return Orders.FALL;
            }
            if (word == Word.THAW) {
                return Orders.THAW;
            }
            if (word == Word.STORM) {
                return Orders.STORM;
            }
            if (word == Word.BUILD) {
                return Orders.BUILD;
            }
            if (word == Word.ICE) {
                return Orders.ICE;
            }
            if (word == Word.STEAL) {
                return Orders.STEAL;
            }
            if (word == Word.NIGHT) {
                return Orders.NIGHT;
            }
            if (word == Word.WHEN) {
                return Orders.WHEN_BREACH;
            }
            if (word == Word.LOOP) {
                return Orders.LOOP;
            }
            return word == Word.STOP ? Orders.STOP : NONE;
        }

        /** What follows the word of a step. */
        private boolean takeRest(int kind, Yard yard, Orders into) {
            switch (kind) {
                case Orders.FALL:
                case Orders.THAW:
                    return takeAmount(into, 0, MOST_AT_ONCE);
                case Orders.STORM:
                    return takeStorm(into);
                case Orders.BUILD:
                    return takeCell(yard, true, into.cells)
                        && reader.take(Word.BY) && takeAmount(into, 1, MOST_AT_ONCE);
                case Orders.ICE:
                    return takeCell(yard, true, into.cells);
                case Orders.STEAL:
                    return takeCell(yard, true, into.cells) && reader.take(Word.FROM)
                        && takeCell(yard, false, into.froms) && crossesHalves(yard, into)
                        && reader.take(Word.BY) && takeAmount(into, 1, MOST_AT_ONCE);
                case Orders.LOOP:
                    return takeAmount(into, 1, 99);
                default:
                    return true;
            }
        }

        private boolean takeAmount(Orders into, int low, int high) {
            if (!reader.takeNumber(low, high) || !Orders.isItem(item)) {
                return false;
            }
            into.amounts[item] = reader.number;
            return true;
        }

        private boolean takeStorm(Orders into) {
            if (!reader.takeNumber(0, MOST_AT_ONCE)) {
                return false;
            }
            int first = reader.number;
            int firstPlace = reader.numberPlace;
            if (!reader.take(Word.TO) || !reader.takeNumber(0, MOST_AT_ONCE) || !Orders.isItem(item)) {
                return false;
            }
            into.amounts[item] = first;
            into.seconds[item] = reader.number;
            // It is the first number that may not be above the second, so the fault is the first one's.
            return first <= reader.number || reader.fail(Reader.BAD_VALUE, firstPlace);
        }

        /** A cell; if it must be owned, one of a school's half. */
        private boolean takeCell(Yard yard, boolean owned, int[] row) {
            if (!reader.takeNumber(0, yard.wide - 1)) {
                return false;
            }
            int x = reader.number;
            if (owned && !yard.isSchool(yard.halfOfColumn(x))) {
                return reader.fail(Reader.BAD_VALUE, reader.numberPlace);
            }
            if (!reader.takeNumber(0, yard.high - 1) || !Orders.isItem(item)) {
                return false;
            }
            row[item] = reader.number * SIDE + x;
            return true;
        }

        /** Whether the cell just read, from which is stolen, lies in the other half. */
        private boolean crossesHalves(Yard yard, Orders into) {
            boolean crosses = Orders.isItem(item)
                && yard.halfOfColumn(into.froms[item] % SIDE) != yard.halfOfColumn(into.cells[item] % SIDE);
            return crosses || reader.fail(Reader.BAD_VALUE, reader.numberPlace);
        }

        private boolean takeTest(Yard yard, Orders into) {
            Word word = reader.word;
            if (word != Word.BREACH && word != Word.DAY && word != Word.WALL && word != Word.WAY
                || !Orders.isItem(item)) {
                return reader.misfit();
            }
            reader.advance();
            if (word == Word.BREACH) {
                into.kinds[item] = Orders.WHEN_BREACH;
                return true;
            }
            if (word == Word.WALL) {
                into.kinds[item] = Orders.WHEN_WALL;
                return takeCell(yard, true, into.cells) && takeComparing(into) && takeAmount(into, 0, FULL);
            }
            into.kinds[item] = word == Word.DAY ? Orders.WHEN_DAY : Orders.WHEN_WAY;
            return takeComparing(into) && takeAmount(into, 0, 999);
        }

        /** The sign by which a test compares. */
        private boolean takeComparing(Orders into) {
            int sign = reader.kind;
            if (sign != '<' && sign != '>' && sign != '=' || !Orders.isItem(item)) {
                return reader.misfit();
            }
            into.seconds[item] = sign;
            reader.advance();
            return true;
        }
    }

    /** Does orders by a seed, and keeps what came of it. */
    private static final class Runner {
        static final int MOST_DONE = 300;
        // 300 steps, each with three ends behind it, or an empty loop of 99 rounds, are far fewer.
        static final int MOST_TURNS = 1000000;

        /** How many steps; NONE ahead of any run. */
        int done = NONE;
        private int missed;
        private int built;
        private int broken;
        private boolean leftOver;
        private int draws;
        /** Of each loop: how many rounds are left, with the present one. */
        private final int[] rounds = new int[Orders.MOST_ITEMS];

        void perform(Orders orders, Yard yard, Walk walk, int seed) {
            done = 0;
            missed = 0;
            built = 0;
            leftOver = false;
            draws = seed;
            int before = yard.allBreaches();
            int item = 0;
            for (int turn = 0; turn < MOST_TURNS && item < orders.items && Orders.isItem(item); turn++) {
                int kind = orders.kinds[item];
                if (kind == Orders.END) {
                    item = behindEnd(orders, item);
                    continue;
                }
                if (done >= MOST_DONE) {
                    leftOver = true;
                    break;
                }
                done++;
                if (kind == Orders.STOP) {
                    break;
                }
                item = behindStep(orders, yard, walk, item);
            }
            broken = yard.allBreaches() - before;
        }

        int tell(int what) {
            switch (what) {
                case 0:
                    return missed;
                case 1:
                    return built;
                case 2:
                    return broken;
                default:
                    return leftOver ? 1 : 0;
            }
        }

        private int behindEnd(Orders orders, int end) {
            int opener = Orders.isItem(end) ? orders.partners[end] : NONE;
            if (!Orders.isItem(opener) || orders.kinds[opener] != Orders.LOOP || rounds[opener] <= 1) {
                return end + 1;
            }
            rounds[opener]--;
            return opener + 1;
        }

        /** Does a step: the item to which it comes then. */
        private int behindStep(Orders orders, Yard yard, Walk walk, int item) {
            if (!Orders.isItem(item)) {
                return item + 1;
            }
            int amount = orders.amounts[item];
            switch (orders.kinds[item]) {
                case Orders.LOOP:
                    rounds[item] = amount;
                    return item + 1;
                case Orders.WHEN_DAY:
                    return behindTest(orders, item, yard.day);
                case Orders.WHEN_WALL:
                    return behindTest(orders, item, yard.wallOf(orders.cells[item]));
                case Orders.WHEN_WAY:
                    return behindTest(orders, item, walk.costOver(yard));
                case Orders.WHEN_BREACH:
                    return yard.allBreaches() > 0 ? item + 1 : orders.partners[item] + 1;
                default:
                    act(orders, yard, item);
                    return item + 1;
            }
        }

        private static int behindTest(Orders orders, int item, int value) {
            if (!Orders.isItem(item)) {
                return item + 1;
            }
            int limit = orders.amounts[item];
            int sign = orders.seconds[item];
            boolean holds = sign == '<' ? value < limit : sign == '>' ? value > limit : value == limit;
            return holds ? item + 1 : orders.partners[item] + 1;
        }

        private void act(Orders orders, Yard yard, int item) {
            if (!Orders.isItem(item)) {
                return;
            }
            int amount = orders.amounts[item];
            int cell = orders.cells[item];
            switch (orders.kinds[item]) {
                case Orders.FALL:
                    yard.snowFalls(amount);
                    break;
                case Orders.THAW:
                    yard.melts(amount);
                    break;
                case Orders.STORM:
                    yard.snowFalls(amount + draw(orders.seconds[item] - amount + 1));
                    break;
                case Orders.BUILD:
                    int units = yard.raises(cell, amount);
                    built += units;
                    missed += units == 0 ? 1 : 0;
                    break;
                case Orders.ICE:
                    missed += yard.freezes(cell) ? 0 : 1;
                    break;
                case Orders.STEAL:
                    missed += yard.takes(cell, orders.froms[item], amount) == 0 ? 1 : 0;
                    break;
                default:
                    missed += yard.sleeps() ? 0 : 1;
                    break;
            }
        }

        private int draw(int n) {
            draws = (draws * 2741 + 9337) % 65536;
            return n > 0 ? draws / 8 % n : 0;
        }
    }

    /** The easiest way over. */
    private static final class Walk {
        // One more of cost weighs more than all the cells that a way can have.
        private static final int COST = 64;
        private static final int FAR = 1 << 28;
        private static final int STEEP = 3;
        // right, down, up, left
        private static final int[] RIGHT = {1, 0, 0, -1};
        private static final int[] DOWN = {0, 1, -1, 0};

        final int[] path = new int[CELLS];
        /** How many cells the path has; 0 while no way was asked. */
        int traced;
        private final int[] heights = new int[CELLS];
        /** From each cell on, by the best way: the cost times COST, and the cells. */
        private final int[] weights = new int[CELLS];
        private int wide;
        private int high;
        private int beginning;
        private int cost;

        int costOver(Yard yard) {
            // Orders may ask for the way again and again while no top has changed.
            if (!comesTo(yard)) {
                return cost;
            }
            Arrays.fill(weights, FAR);
            boolean lighter = true;
            // A best way has no cell twice, so as many rounds as there are cells find all.
            for (int round = 0; round <= CELLS && lighter; round++) {
                lighter = false;
                for (int cell = CELLS - 1; cell >= 0; cell--) {
                    int weight = weightFrom(yard, cell);
                    if (weight < weights[cell]) {
                        weights[cell] = weight;
                        lighter = true;
                    }
                }
            }
            begin();
            return cost;
        }

        /** Takes the yard's size and tops: whether they are others than the latest. */
        private boolean comesTo(Yard yard) {
            boolean isOther = wide != yard.wide || high != yard.high;
            wide = yard.wide;
            high = yard.high;
            for (int cell = 0; cell < CELLS; cell++) {
                int top = yard.topOf(cell);
                isOther |= heights[cell] != top;
                heights[cell] = top;
            }
            return isOther;
        }

        /** The best cell on the left edge, and the cost from there on. */
        private void begin() {
            int least = FAR;
            for (int first = 0; first < CELLS; first += SIDE) {
                int weight = costOfStep(0, heights[first]) * COST + weights[first];
                if (weight < least) {
                    least = weight;
                    beginning = first;
                }
            }
            cost = least / COST;
        }

        private static int costOfStep(int from, int to) {
            if (to > from) {
                return to - from;
            }
            return from - to > STEEP ? 2 : 0;
        }

        /** The weight from a cell on by its best neighbour, as far as their weights are known. */
        private int weightFrom(Yard yard, int cell) {
            int x = cell % SIDE;
            int y = cell / SIDE;
            if (!yard.isCell(x, y)) {
                return FAR;
            }
            int least = x == yard.wide - 1 ? costOfStep(heights[cell], 0) * COST : FAR;
            for (int i = 0; i < 4; i++) {
                if (yard.isCell(x + RIGHT[i], y + DOWN[i])) {
                    least = Math.min(least, weightBy(cell, cell + RIGHT[i] + DOWN[i] * SIDE));
                }
            }
            return least + 1;
        }

        private int weightBy(int cell, int to) {
            if (cell < 0 || cell >= CELLS || to < 0 || to >= CELLS) {
                return FAR;
            }
            return costOfStep(heights[cell], heights[to]) * COST + weights[to];
        }

        /** Keeps the first of the best ways, by the weights of the latest cost. */
        void trace(Yard yard) {
            traced = 0;
            int cell = beginning;
            for (int k = 0; k < CELLS && isWithin(cell, 0, CELLS - 1); k++) {
                path[k] = cell;
                traced++;
                cell = cellBehind(yard, cell);
            }
        }

        private int cellBehind(Yard yard, int cell) {
            if (weights[cell] % COST == 1) {
                return NONE;
            }
            for (int i = 0; i < 4; i++) {
                int to = cell + RIGHT[i] + DOWN[i] * SIDE;
                boolean isCell = yard.isCell(cell % SIDE + RIGHT[i], cell / SIDE + DOWN[i]);
                if (isCell && weightBy(cell, to) + 1 == weights[cell]) {
                    return to;
                }
            }
            return NONE;
        }
    }

    /** The works that explain the heights of mornings. */
    private static final class Mornings {
        static final int MOST_WORKS = 9;

        long rows;
        int fewest;
        int greatest;
        /** The night whose fewest units are the most. */
        int hardest;

        void explain(Tray heights, Tray thaws, int many) {
            rows = 1;
            fewest = 0;
            greatest = 0;
            hardest = 0;
            int hardestFewest = NONE;
            for (int night = 0; night < many - 1; night++) {
                int before = (int) heights.numberAt(night);
                int behind = (int) heights.numberAt(night + 1);
                int exact = behind + (int) thaws.numberAt(night) - before;
                // A thaw can melt more than there is, so a wall of 0 tells only what was not built.
                int low = behind == 0 ? 0 : exact;
                int high = Math.min(exact, MOST_WORKS);
                if (low < 0 || low > high) {
                    rows = 0;
                    return;
                }
                rows *= high - low + 1;
                fewest += low;
                greatest += high;
                if (low > hardestFewest) {
                    hardestFewest = low;
                    hardest = night;
                }
            }
        }
    }

    /** A wall's heights by their odds, and the fraction told latest. */
    private static final class Odds {
        static final int THAWS = 4;
        static final int SIXTEENTHS = 16;
        static final int HEIGHTS = 100;

        long upper;
        long lower = 1;
        /** How many of all cases leave each height. */
        private final long[] cases = new long[HEIGHTS];
        private long allCases;

        boolean canBe(Tray sixteenths) {
            if (!sixteenths.holdsWithin(THAWS, SIXTEENTHS)) {
                return false;
            }
            long sum = 0;
            for (int thaw = 0; thaw < THAWS; thaw++) {
                sum += sixteenths.numberAt(thaw);
            }
            return sum == SIXTEENTHS;
        }

        void spread(int wall, int days, Tray sixteenths) {
            Arrays.fill(cases, 0L);
            allCases = 1;
            if (isWithin(wall, 0, HEIGHTS - 1)) {
                cases[wall] = 1;
            }
            for (int day = 0; day < days; day++) {
                allCases *= SIXTEENTHS;
                // From below, so that the heights above are still those of the day before.
                for (int height = 0; height < HEIGHTS; height++) {
                    cases[height] = height == 0 ? casesOfNone(sixteenths) : casesOf(height, sixteenths);
                }
            }
        }

        private long casesOf(int height, Tray sixteenths) {
            long sum = 0;
            for (int thaw = 0; thaw < THAWS && height + thaw < HEIGHTS; thaw++) {
                sum += sixteenths.numberAt(thaw) * cases[height + thaw];
            }
            return sum;
        }

        private long casesOfNone(Tray sixteenths) {
            long sum = 0;
            for (int thaw = 0; thaw < THAWS; thaw++) {
                for (int height = 0; height <= thaw; height++) {
                    sum += sixteenths.numberAt(thaw) * cases[height];
                }
            }
            return sum;
        }

        void tellStanding() {
            tellFraction(allCases - cases[0], allCases);
        }

        void tellMean() {
            long sum = 0;
            for (int height = 0; height < HEIGHTS; height++) {
                sum += height * cases[height];
            }
            tellFraction(sum, allCases);
        }

        void tellFraction(long part, long whole) {
            long a = whole;
            long b = part;
            // Euclid's steps: the numbers are below 2 to the 40th, so 200 are far more than it takes.
            for (int i = 0; i < 200 && b != 0; i++) {
                long rest = a % b;
                a = b;
                b = rest;
            }
            if (a > 0) {
                upper = part / a;
                lower = whole / a;
            }
        }
    }
}
