import java.util.Arrays;

/** A clock whose hands look alike: what DOC.md promises, call by call. */
public final class AlikeHands {
    public static final int NONE = -1000000, BAD = -1000001, STATE = -1000002, FULL = -1000003;

    private static final int FOUND = -1000010, NULL = 1, PLACE = 2, OTHER_KIND = 3, SIZE = 4, STORE = 5;
    private static final int FAULTED = -1000100;
    private static final int HAND = 0, HOUR = 1, MOON = 2, SWEEP = 3, BACK = 4, TIDE = 5;
    private static final int MOST_ROWS = 8, MOST_ITEMS = 40, LAST_LANE = 2;
    private static final int MOST_HANDS = 4, MOST_MARKS = 60, MOST_BELOW = 9999;
    private static final int MOST_PARTS = 720, MOST_READINGS = 10;

    private final Rows rows = new Rows();
    private final Tape tape = new Tape();
    private final Clock clock = new Clock();
    // Read apart from the clock in use, which has to stay as it is when a fault turns up late.
    private final Clock draft = new Clock();
    private final Clock firstImage = new Clock();
    private final Clock secondImage = new Clock();
    private final Acts acts = new Acts();
    private final Doubts pair = new Doubts();
    private final Reading reading = new Reading();
    private final Asks asks = new Asks();
    private int latestFault;
    private int finding;

    public AlikeHands() {
    }

    // ---- rows

    public int row(int row, int lane, int n) {
        if (!isRow(row) || !isWithin(lane, 0, LAST_LANE) || n > MOST_ITEMS) {
            return BAD;
        }
        if (n < 0) {
            return found(SIZE);
        }
        rows.make(row, lane, n);
        return fine(n);
    }

    public int set(int row, int i, int v) {
        if (!isRow(row)) {
            return BAD;
        }
        int wrong = rows.wrongAt(row, i, 1);
        if (wrong != 0) {
            return found(wrong);
        }
        rows.put(row, i, v);
        return fine(rows.item(row, i));
    }

    public int copy(int a, int i, int b, int j, int n) {
        if (!isRow(a) || !isRow(b)) {
            return BAD;
        }
        if (rows.isMissing(a) || rows.isMissing(b)) {
            return found(NULL);
        }
        if (rows.laneOf(a) != rows.laneOf(b)) {
            return found(STORE);
        }
        if (!rows.reaches(a, i, n) || !rows.reaches(b, j, n)) {
            return found(PLACE);
        }
        rows.move(a, i, b, j, n);
        return fine(n);
    }

    public int drop(int row) {
        if (!isRow(row)) {
            return BAD;
        }
        if (rows.isMissing(row)) {
            return found(NULL);
        }
        int had = rows.length(row);
        rows.lose(row);
        return fine(had);
    }

    // ---- clocks, slips

    public int feed(long w, int n) {
        if (!isWithin(n, 1, 8)) {
            return BAD;
        }
        if (!tape.hasRoom(n)) {
            return FULL;
        }
        for (int k = n - 1; k >= 0; k--) {
            tape.append((int) (w >>> (8 * k)) & 255);
        }
        return tape.length;
    }

    public int clock() {
        tape.readInto(draft);
        tape.length = 0;
        if (tape.fault != 0) {
            latestFault = tape.fault;
            return FAULTED - tape.from;
        }
        clock.become(draft);
        acts.length = 0;
        return clock.count;
    }

    public int fault() {
        return latestFault;
    }

    public int slip(int hand, int marks) {
        if (!clock.has(hand) || !isWithin(marks, -MOST_MARKS, MOST_MARKS)) {
            return BAD;
        }
        int was = clock.slipOf(hand);
        acts.keep(hand, was);
        clock.setSlip(hand, rest(was + marks, clock.marks));
        return clock.slipOf(hand);
    }

    public int undo() {
        if (acts.length < 1) {
            return STATE;
        }
        clock.setSlip(acts.lastHand(), acts.lastSlip());
        acts.length--;
        return acts.length;
    }

    public int hand(int hand, int what) {
        if (!clock.has(hand) || !isWithin(what, 0, 2)) {
            return BAD;
        }
        if (what == 0) {
            return clock.turnsOf(hand);
        }
        return what == 1 ? clock.speedOf(hand) : clock.slipOf(hand);
    }

    public int points(int hand, int p, int q, int what) {
        if (!clock.has(hand) || !isMoment(p, q) || !isWithin(what, 0, 1)) {
            return BAD;
        }
        return part(clock.arcAbove(hand, p, q), clock.arcBelow(q), what);
    }

    // ---- foretold

    public int doubts(int a, int b) {
        if (!isPair(a, b)) {
            return BAD;
        }
        pair.of(clock.speedOf(a), clock.speedOf(b));
        return pair.isNone() ? NONE : pair.howMany();
    }

    public int doubt(int a, int b, int i, int what) {
        if (!isPair(a, b) || i < 0 || !isWithin(what, 0, 3)) {
            return BAD;
        }
        pair.of(clock.speedOf(a), clock.speedOf(b));
        int x = pair.number(i);
        if (x < 0) {
            return NONE;
        }
        if (what < 2) {
            return part(x, pair.moments, what);
        }
        return part(pair.otherOf(x), pair.whole, what - 2);
    }

    public int isDoubt(int a, int b, int p, int q) {
        if (!isPair(a, b) || !isMoment(p, q)) {
            return BAD;
        }
        pair.of(clock.speedOf(a), clock.speedOf(b));
        if (pair.isNone()) {
            return NONE;
        }
        return pair.isAt(p, q) ? 1 : 0;
    }

    public int next(int a, int b, int how, int p, int q, int what) {
        if (!isPair(a, b) || !isWithin(how, 0, 2) || !isMoment(p, q) || !isWithin(what, 0, 1)) {
            return BAD;
        }
        int apart = speedApart(a, b);
        if (apart == 0) {
            return NONE;
        }
        int below = apart << how;
        return part(firstMeeting(below, how, p, q), below, what);
    }

    public int often(int a, int b, int how) {
        if (!isPair(a, b) || !isWithin(how, 0, 2)) {
            return BAD;
        }
        int apart = speedApart(a, b);
        if (apart == 0) {
            return NONE;
        }
        return how == 2 ? 2 * apart : apart;
    }

    public int all() {
        if (clock.isNone()) {
            return STATE;
        }
        int together = 0;
        for (int h = 1; h < clock.count; h++) {
            together = common(together, speedApart(0, h));
        }
        return together == 0 ? NONE : together;
    }

    public int lies(int row, int i, int parts, int what) {
        if (clock.isNone()) {
            return STATE;
        }
        if (!isRow(row) || !isWithin(parts, 1, MOST_PARTS) || !isWithin(what, 0, 3)) {
            return BAD;
        }
        int wrong = rows.wrongAt(row, i, clock.count);
        if (wrong != 0) {
            return found(wrong);
        }
        if (!rows.areBelow(parts, row, i, clock.count)) {
            return BAD;
        }
        reading.take(clock, rows, row, i, parts);
        return fine(lieOfReading(what));
    }

    public int firstLie(int row, int n, int parts) {
        if (clock.isNone()) {
            return STATE;
        }
        if (!isRow(row) || !isWithin(n, 1, MOST_READINGS) || !isWithin(parts, 1, MOST_PARTS)) {
            return BAD;
        }
        int wrong = rows.wrongAt(row, 0, n * clock.count);
        if (wrong != 0) {
            return found(wrong);
        }
        if (!rows.areBelow(parts, row, 0, n * clock.count)) {
            return BAD;
        }
        return fine(firstLieOf(row, n, parts));
    }

    public int glass(int p, int q, int what) {
        if (clock.isNone()) {
            return STATE;
        }
        if (!isMoment(p, q) || !isWithin(what, 0, 2)) {
            return BAD;
        }
        if (what == 2) {
            return trueInGlass(p, q);
        }
        return part(rest(-p, q), q, what);
    }

    public int image(int k) {
        if (!isWithin(k, 0, 1)) {
            return BAD;
        }
        if (clock.isNone()) {
            return STATE;
        }
        imageOf(k).become(clock);
        return 1;
    }

    public int restore(int k) {
        if (!isWithin(k, 0, 1)) {
            return BAD;
        }
        if (imageOf(k).isNone()) {
            return STATE;
        }
        clock.become(imageOf(k));
        acts.length = 0;
        return 1;
    }

    // ---- asked

    public int kind(int hand) {
        return clock.has(hand) ? clock.sortOf(hand) : BAD;
    }

    public int as(int hand, int kind) {
        if (!clock.has(hand) || !isWithin(kind, HAND, TIDE)) {
            return BAD;
        }
        return isOfKind(clock.sortOf(hand), kind) ? fine(hand) : found(OTHER_KIND);
    }

    public int ask(int hand, int what) {
        if (!clock.has(hand) || !isWithin(what, 0, 1)) {
            return BAD;
        }
        asks.length = 0;
        // The two families never ask one another, so no ask can come back to itself.
        if (isOfKind(clock.sortOf(hand), BACK)) {
            return what == 0 ? asks.sizeOfBacks(clock, hand) : asks.markOfBacks(clock, hand);
        }
        return what == 0 ? asks.sizeOfHours(clock, hand) : asks.markOfHours(clock, hand);
    }

    public int trace(int i) {
        return asks.numberAt(i);
    }

    public int count(int what) {
        switch (what) {
            case 0:
                return rows.present();
            case 1:
                return clock.count;
            case 2:
                return clock.marks;
            case 3:
                return clock.slippedHands();
            case 4:
                return acts.length;
            case 5:
                return tape.length;
            default:
                return BAD;
        }
    }

    public int status() {
        return finding;
    }

    // ---- what the calls share

    private int found(int number) {
        finding = number;
        return FOUND - number;
    }

    private int fine(int answer) {
        finding = 0;
        return answer;
    }

    private boolean isPair(int a, int b) {
        return clock.has(a) && clock.has(b) && a != b;
    }

    private int speedApart(int a, int b) {
        return Math.abs(clock.speedOf(a) - clock.speedOf(b));
    }

    private Clock imageOf(int k) {
        return k == 0 ? firstImage : secondImage;
    }

    private int lieOfReading(int what) {
        if (what == 0) {
            return reading.fitsWithout(Reading.NO_HAND) ? 1 : 0;
        }
        if (what == 1) {
            return reading.moved();
        }
        int least = reading.leastMove();
        return least < 0 ? NONE : part(least, reading.whole(), what - 2);
    }

    private int firstLieOf(int row, int n, int parts) {
        for (int k = 0; k < n; k++) {
            reading.take(clock, rows, row, k * clock.count, parts);
            if (!reading.fitsWithout(Reading.NO_HAND)) {
                return k;
            }
        }
        return NONE;
    }

    private int trueInGlass(int p, int q) {
        int bits = 0;
        for (int h = 0; h < clock.count; h++) {
            // An arc is its own image where twice of it makes whole rounds.
            if (rest(2 * clock.arcAbove(h, p, q), clock.arcBelow(q)) == 0) {
                bits |= 1 << h;
            }
        }
        return bits;
    }

    /** The first k by below from p by q on, round to it; k is odd for all but hands that are together. */
    private static int firstMeeting(int below, int how, int p, int q) {
        int first = how == 0 ? 0 : 1;
        if (q < 1) {
            return first;
        }
        int k = (below * p + q - 1) / q;
        if (how != 0 && k % 2 == 0) {
            k++;
        }
        return k < below ? k : first;
    }

    private static boolean isOfKind(int sort, int kind) {
        if (kind == HAND || kind == sort) {
            return true;
        }
        return kind == HOUR ? sort == MOON || sort == SWEEP : kind == BACK && sort == TIDE;
    }

    private static boolean isRow(int row) {
        return row >= 0 && row < MOST_ROWS;
    }

    private static boolean isMoment(int p, int q) {
        return isWithin(q, 1, MOST_BELOW) && isWithin(p, 0, q - 1);
    }

    private static boolean isWithin(int v, int least, int most) {
        return least <= v && v <= most;
    }

    /** What is left of n when all wholes are out of it, from 0 on. */
    private static int rest(int n, int whole) {
        return whole < 1 ? 0 : Math.floorMod(n, whole);
    }

    /** The greatest number that divides both; neither is below 0. */
    private static int common(int a, int b) {
        int greater = a;
        int less = b;
        // Each step at least halves what two steps before stood there: 64 are more than an int can need.
        for (int step = 0; step < 64 && less > 0; step++) {
            int left = greater % less;
            greater = less;
            less = left;
        }
        return greater;
    }

    /** Of above by below in lowest terms: above (what = 0) or below (1). */
    private static int part(int above, int below, int what) {
        int shared = common(above, below);
        if (shared < 1) {
            return 0;
        }
        return what == 0 ? above / shared : below / shared;
    }

    /** The rows; missing ones keep their room, so that no call has to make any. */
    private static final class Rows {
        static final int MISSING = -1;
        final int[] items = new int[MOST_ROWS * MOST_ITEMS];
        final int[] lanes = new int[MOST_ROWS];
        final int[] lengths = new int[MOST_ROWS];

        Rows() {
            Arrays.fill(lanes, MISSING);
        }

        int laneOf(int row) {
            return isRow(row) ? lanes[row] : MISSING;
        }

        boolean isMissing(int row) {
            return laneOf(row) == MISSING;
        }

        int length(int row) {
            return isRow(row) ? lengths[row] : 0;
        }

        boolean reaches(int row, int i, int n) {
            return i >= 0 && n >= 0 && i <= length(row) - n;
        }

        /** The number of what is found when n items from i on are wanted; 0 when they are there. */
        int wrongAt(int row, int i, int n) {
            if (isMissing(row)) {
                return NULL;
            }
            return reaches(row, i, n) ? 0 : PLACE;
        }

        void make(int row, int lane, int n) {
            if (!isRow(row) || !isWithin(n, 0, MOST_ITEMS)) {
                return;
            }
            lanes[row] = lane;
            lengths[row] = n;
            for (int i = 0; i < n; i++) {
                items[row * MOST_ITEMS + i] = 0;
            }
        }

        void lose(int row) {
            if (isRow(row)) {
                lanes[row] = MISSING;
                lengths[row] = 0;
            }
        }

        int item(int row, int i) {
            return isRow(row) && reaches(row, i, 1) ? items[row * MOST_ITEMS + i] : 0;
        }

        void put(int row, int i, int v) {
            if (isRow(row) && reaches(row, i, 1)) {
                items[row * MOST_ITEMS + i] = cut(laneOf(row), v);
            }
        }

        void move(int a, int i, int b, int j, int n) {
            if (isRow(a) && isRow(b) && reaches(a, i, n) && reaches(b, j, n)) {
                System.arraycopy(items, a * MOST_ITEMS + i, items, b * MOST_ITEMS + j, n);
            }
        }

        boolean areBelow(int parts, int row, int i, int n) {
            for (int k = 0; k < n; k++) {
                if (!isWithin(item(row, i + k), 0, parts - 1)) {
                    return false;
                }
            }
            return true;
        }

        int present() {
            int n = 0;
            for (int row = 0; row < MOST_ROWS; row++) {
                if (!isMissing(row)) {
                    n++;
                }
            }
            return n;
        }

        static int cut(int lane, int v) {
            if (lane == 0) {
                return (byte) v;
            }
            return lane == 1 ? (short) v : v;
        }
    }

    /** A clock; without hands there is none. */
    private static final class Clock {
        final int[] sorts = new int[MOST_HANDS];
        final int[] turns = new int[MOST_HANDS];
        final int[] slips = new int[MOST_HANDS];
        int marks;
        int count;

        boolean isNone() {
            return count == 0;
        }

        boolean has(int hand) {
            return hand >= 0 && hand < count && hand < MOST_HANDS;
        }

        int sortOf(int hand) {
            return has(hand) ? sorts[hand] : HAND;
        }

        int turnsOf(int hand) {
            return has(hand) ? turns[hand] : 0;
        }

        int slipOf(int hand) {
            return has(hand) ? slips[hand] : 0;
        }

        int speedOf(int hand) {
            int sort = sortOf(hand);
            if (sort == BACK) {
                return -turnsOf(hand);
            }
            return sort == TIDE ? 2 * turnsOf(hand) : turnsOf(hand);
        }

        int arcAbove(int hand, int p, int q) {
            return rest(speedOf(hand) * p * marks + slipOf(hand) * q, arcBelow(q));
        }

        int arcBelow(int q) {
            return q * marks;
        }

        int slippedHands() {
            int n = 0;
            for (int h = 0; h < count; h++) {
                if (slipOf(h) != 0) {
                    n++;
                }
            }
            return n;
        }

        void setSlip(int hand, int slip) {
            if (has(hand)) {
                slips[hand] = slip;
            }
        }

        void add(int sort, int turned) {
            if (count >= 0 && count < MOST_HANDS) {
                sorts[count] = sort;
                turns[count] = turned;
                slips[count] = 0;
                count++;
            }
        }

        void become(Clock other) {
            marks = other.marks;
            count = other.count;
            for (int h = 0; h < MOST_HANDS; h++) {
                sorts[h] = other.sorts[h];
                turns[h] = other.turns[h];
                slips[h] = other.slips[h];
            }
        }
    }

    /** The slips that can be undone, each with what its hand had slipped ahead of it. */
    private static final class Acts {
        static final int MOST = 24;
        final int[] hands = new int[MOST];
        final int[] slips = new int[MOST];
        int length;

        void keep(int hand, int slip) {
            if (length >= MOST) {
                forgetOldest();
            }
            if (length >= 0 && length < MOST) {
                hands[length] = hand;
                slips[length] = slip;
                length++;
            }
        }

        void forgetOldest() {
            System.arraycopy(hands, 1, hands, 0, MOST - 1);
            System.arraycopy(slips, 1, slips, 0, MOST - 1);
            length = MOST - 1;
        }

        int lastHand() {
            return isWithin(length, 1, MOST) ? hands[length - 1] : 0;
        }

        int lastSlip() {
            return isWithin(length, 1, MOST) ? slips[length - 1] : 0;
        }
    }

    /** The tape, and what is read from it, token by token. */
    private static final class Tape {
        static final int MOST = 200, MOST_FIGURES = 3, MOST_TURNS = 12;
        static final int END = 0, NAME = 1, NUMBER = 2, SIGN = 3, NO_TOKEN = 4;
        static final int MISPLACED = 1, NOT_AS_TOLD = 2, NO_ROOM = 3;
        final int[] bytes = new int[MOST];
        int length;
        int token;
        int from;
        int to;
        int fault;

        boolean hasRoom(int n) {
            return length <= MOST - n;
        }

        void append(int b) {
            if (length >= 0 && length < MOST) {
                bytes[length] = b;
                length++;
            }
        }

        /** The byte there, 0 (which no token has) behind the end. */
        int at(int i) {
            return i >= 0 && i < length && i < MOST ? bytes[i] : 0;
        }

        void readInto(Clock draft) {
            fault = 0;
            to = 0;
            draft.count = 0;
            advance();
            takeWord("dial");
            draft.marks = takeNumber(2, MOST_MARKS);
            takeSign();
            takeHand(draft);
            for (int n = 0; n < MOST && fault == 0 && token != END; n++) {
                takeHand(draft);
            }
        }

        void takeHand(Clock draft) {
            if (fault == 0 && isWord("hand") && draft.count >= MOST_HANDS) {
                fault = NO_ROOM;
            }
            takeWord("hand");
            int sort = takeSort();
            int turned = takeNumber(1, MOST_TURNS);
            takeSign();
            if (fault == 0) {
                draft.add(sort, turned);
            }
        }

        void takeWord(String word) {
            pass(isWord(word), MISPLACED);
        }

        void takeSign() {
            pass(token == SIGN, MISPLACED);
        }

        int takeSort() {
            int sort = sortHere();
            pass(sort != HAND, MISPLACED);
            return sort;
        }

        int takeNumber(int least, int most) {
            int v = token == NUMBER ? numberHere() : 0;
            pass(isWithin(v, least, most), token == NUMBER ? NOT_AS_TOLD : MISPLACED);
            return v;
        }

        /** Goes on behind a token that is right; a fault stops at its token, of which the place is asked. */
        void pass(boolean right, int number) {
            if (fault != 0) {
                return;
            }
            if (right) {
                advance();
            } else {
                fault = number;
            }
        }

        void advance() {
            from = to;
            while (from < length && (at(from) == ' ' || at(from) == '\n')) {
                from++;
            }
            to = from;
            if (isLetter(at(from))) {
                while (to < length && isLetter(at(to))) {
                    to++;
                }
                token = NAME;
            } else if (isFigure(at(from))) {
                while (to < length && isFigure(at(to))) {
                    to++;
                }
                token = to - from > MOST_FIGURES ? NO_TOKEN : NUMBER;
            } else if (from >= length) {
                token = END;
            } else {
                to++;
                token = at(from) == ';' ? SIGN : NO_TOKEN;
            }
        }

        static boolean isLetter(int b) {
            return b >= 'a' && b <= 'z';
        }

        static boolean isFigure(int b) {
            return b >= '0' && b <= '9';
        }

        boolean isWord(String word) {
            if (token != NAME || to - from != word.length()) {
                return false;
            }
            for (int i = 0; i < word.length(); i++) {
                if (at(from + i) != word.charAt(i)) {
                    return false;
                }
            }
            return true;
        }

        int sortHere() {
            if (isWord("hour")) {
                return HOUR;
            }
            if (isWord("moon")) {
                return MOON;
            }
            if (isWord("sweep")) {
                return SWEEP;
            }
            if (isWord("back")) {
                return BACK;
            }
            return isWord("tide") ? TIDE : HAND;
        }

        int numberHere() {
            int v = 0;
            for (int i = from; i < to; i++) {
                v = 10 * v + at(i) - '0';
            }
            return v;
        }
    }

    /**
     * The doubts of two speeds a, b. Where a x = b y and b x = a y, whole rounds left out, x is some k by moments:
     * |a a - b b| divided by what a and b share; and one x has as many y as they share, all as far apart.
     */
    private static final class Doubts {
        int whole;
        int shared;
        int moments;
        int firstOther;

        void of(int a, int b) {
            whole = Math.abs(a * a - b * b);
            shared = common(Math.abs(a), Math.abs(b));
            moments = shared < 1 ? 0 : whole / shared;
            firstOther = leastOther(a, b);
        }

        /** The least y where x is 1 by moments, in parts of whole; where x is k times as far on, so are its y. */
        int leastOther(int a, int b) {
            for (int j = 0; j < moments; j++) {
                if (rest(b * j - a * shared, whole) == 0 && rest(a * j - b * shared, whole) == 0) {
                    return j;
                }
            }
            return 0;
        }

        boolean isNone() {
            return moments == 0;
        }

        /** The least y unlike the k-th x, in parts of whole; below 0 where there is none. */
        int otherOf(int k) {
            int least = rest(k * firstOther, moments);
            if (least != k * shared) {
                return least;
            }
            return shared > 1 ? least + moments : -1;
        }

        int howMany() {
            int n = 0;
            for (int k = 0; k < moments; k++) {
                if (otherOf(k) >= 0) {
                    n++;
                }
            }
            return n;
        }

        /** The i-th x that is a doubt, in parts of moments; below 0 where there are not so many. */
        int number(int i) {
            int n = 0;
            for (int k = 0; k < moments; k++) {
                if (otherOf(k) >= 0) {
                    if (n == i) {
                        return k;
                    }
                    n++;
                }
            }
            return -1;
        }

        boolean isAt(int p, int q) {
            return q > 0 && moments * p % q == 0 && otherOf(moments * p / q) >= 0;
        }
    }

    /** What hands are read at, in parts of the dial, and how fast they go. */
    private static final class Reading {
        static final int NO_HAND = -1;
        final int[] arcs = new int[MOST_HANDS];
        final int[] speeds = new int[MOST_HANDS];
        int count;
        int parts;

        void take(Clock clock, Rows rows, int row, int i, int dialParts) {
            count = Math.min(clock.count, MOST_HANDS);
            parts = dialParts;
            for (int h = 0; h < count; h++) {
                arcs[h] = rows.item(row, i + h);
                speeds[h] = clock.speedOf(h);
            }
        }

        int arcOf(int hand) {
            return hand >= 0 && hand < MOST_HANDS ? arcs[hand] : 0;
        }

        int speedOf(int hand) {
            return hand >= 0 && hand < MOST_HANDS ? speeds[hand] : 0;
        }

        /** The parts of a round in which leastMove() tells. */
        int whole() {
            return Math.max(1, Math.abs(speedOf(0)) * parts);
        }

        /**
         * How far a hand is off its reading, either way, at the turn-th moment at which the base hand is as read.
         * Each of the dial's parts is cut into as many as the base hand's speed, so that only whole numbers come up.
         */
        int gap(int base, int turn, int hand) {
            int baseSpeed = speedOf(base);
            int whole = Math.abs(baseSpeed) * parts;
            int shown = speedOf(hand) * (arcOf(base) + turn * parts);
            int off = rest(shown - arcOf(hand) * baseSpeed, whole);
            return Math.min(off, whole - off);
        }

        boolean fitsAt(int base, int turn, int without) {
            for (int h = 0; h < count; h++) {
                if (h != without && gap(base, turn, h) != 0) {
                    return false;
                }
            }
            return true;
        }

        boolean fitsWithout(int without) {
            int base = without == 0 ? 1 : 0;
            if (base >= count) {
                return true;
            }
            int turns = Math.abs(speedOf(base));
            for (int turn = 0; turn < turns; turn++) {
                if (fitsAt(base, turn, without)) {
                    return true;
                }
            }
            return false;
        }

        int moved() {
            int bits = 0;
            for (int h = 0; h < count; h++) {
                if (fitsWithout(h)) {
                    bits |= 1 << h;
                }
            }
            return bits;
        }

        /** The least move of the last hand, in parts of whole(); below 0 where the others have no moment. */
        int leastMove() {
            int last = count - 1;
            if (last < 1) {
                return 0;
            }
            int least = -1;
            int turns = Math.abs(speedOf(0));
            for (int turn = 0; turn < turns; turn++) {
                if (fitsAt(0, turn, last)) {
                    int move = gap(0, turn, last);
                    least = least < 0 ? move : Math.min(least, move);
                }
            }
            return least;
        }
    }

    /** The bodies of the asks, and the trace that they leave. */
    private static final class Asks {
        static final int MOST = 16;
        final int[] bodies = new int[MOST];
        int length;

        void leave(int body) {
            if (length >= 0 && length < MOST) {
                bodies[length] = body;
                length++;
            }
        }

        int numberAt(int i) {
            return i >= 0 && i < length && i < MOST ? bodies[i] : NONE;
        }

        int lentSize(Clock clock, int hand) {
            leave(10);
            return clock.turnsOf(hand);
        }

        int lentMark(int hand) {
            leave(20);
            return hand;
        }

        int hourSize(Clock clock, int hand) {
            leave(11);
            int lent = lentSize(clock, hand);
            return lent + markOfHours(clock, hand);
        }

        int hourMark(Clock clock, int hand) {
            leave(21);
            return lentMark(hand) + clock.slipOf(hand);
        }

        int backSize(Clock clock, int hand) {
            leave(13);
            return lentSize(clock, hand) - 100;
        }

        int sizeOfHours(Clock clock, int hand) {
            if (clock.sortOf(hand) == MOON) {
                leave(12);
                return -hourSize(clock, hand);
            }
            return hourSize(clock, hand);
        }

        int markOfHours(Clock clock, int hand) {
            int sort = clock.sortOf(hand);
            if (sort == SWEEP) {
                leave(22);
                return hourMark(clock, hand) - 1000;
            }
            if (sort == MOON) {
                leave(24);
                return 2 * hourMark(clock, hand);
            }
            return hourMark(clock, hand);
        }

        int sizeOfBacks(Clock clock, int hand) {
            if (clock.sortOf(hand) == TIDE) {
                leave(14);
                return 2 * backSize(clock, hand);
            }
            return backSize(clock, hand);
        }

        int markOfBacks(Clock clock, int hand) {
            leave(23);
            int lent = lentMark(hand);
            return lent - sizeOfBacks(clock, hand);
        }
    }
}
