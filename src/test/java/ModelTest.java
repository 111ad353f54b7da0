import java.util.ArrayDeque;
import java.util.ArrayList;
import java.util.Arrays;
import java.util.Deque;
import java.util.List;
import java.util.Random;
import java.util.regex.Matcher;
import java.util.regex.Pattern;

/** AlikeHands against a model that tries all moments that could be, in runs of calls that are the same each time. */
public final class ModelTest {
    private static final int NONE = -1000000, BAD = -1000001, STATE = -1000002, FULL = -1000003;
    private static final int RUNS = 400, CALLS = 512;
    private static int wrong = 0;

    /** A part of a round in lowest terms, from 0 on, below 1. */
    private record Part(long above, long below) implements Comparable<Part> {
        static Part of(long above, long below) {
            long whole = Math.abs(below);
            long rest = Math.floorMod(below < 0 ? -above : above, whole);
            long shared = java.math.BigInteger.valueOf(rest).gcd(java.math.BigInteger.valueOf(whole)).longValue();
            return new Part(rest / shared, whole / shared);
        }

        Part times(long n) {
            return of(n * above, below);
        }

        Part plus(Part other) {
            return of(above * other.below + other.above * below, below * other.below);
        }

        Part less(Part other) {
            return plus(other.times(-1));
        }

        Part eitherWay() {
            Part back = times(-1);
            return compareTo(back) <= 0 ? this : back;
        }

        @Override
        public int compareTo(Part other) {
            return Long.compare(above * other.below, other.above * below);
        }

        int told(int what) {
            return (int) (what == 0 ? above : below);
        }
    }

    private record Hand(String sort, int turns, int slipped) {
        int speed() {
            return sort.equals("back") ? -turns : sort.equals("tide") ? 2 * turns : turns;
        }

        int kind() {
            return List.of("", "hour", "moon", "sweep", "back", "tide").indexOf(sort);
        }
    }

    private record Clock(int marks, List<Hand> hands) {
        Clock with(int hand, int slipped) {
            List<Hand> changed = new ArrayList<>(hands);
            Hand was = hands.get(hand);
            changed.set(hand, new Hand(was.sort, was.turns, slipped));
            return new Clock(marks, changed);
        }

        Part arc(int hand, Part x) {
            return x.times(hands.get(hand).speed()).plus(Part.of(hands.get(hand).slipped, marks));
        }
    }

    private static final class Model {
        private static final Clock NO_CLOCK = new Clock(0, List.of());
        final int[][] rows = new int[8][];
        final int[] lanes = new int[8];
        final StringBuilder tape = new StringBuilder();
        final Deque<Clock> before = new ArrayDeque<>();
        final Clock[] images = new Clock[2];
        final List<Integer> trace = new ArrayList<>();
        Clock clock = NO_CLOCK;
        int fault;
        int status;

        int found(int number) {
            status = number;
            return -1000010 - number;
        }

        int fine(int answer) {
            status = 0;
            return answer;
        }

        boolean noRow(int row) {
            return row < 0 || row > 7;
        }

        boolean noHand(int hand) {
            return hand < 0 || hand >= clock.hands.size();
        }

        boolean noPair(int a, int b) {
            return noHand(a) || noHand(b) || a == b;
        }

        boolean noMoment(int p, int q) {
            return q < 1 || q > 9999 || p < 0 || p >= q;
        }

        int row(int row, int lane, int n) {
            if (noRow(row) || lane < 0 || lane > 2 || n > 40) {
                return BAD;
            }
            if (n < 0) {
                return found(4);
            }
            rows[row] = new int[n];
            lanes[row] = lane;
            return fine(n);
        }

        int set(int row, int i, int v) {
            if (noRow(row)) {
                return BAD;
            }
            if (rows[row] == null) {
                return found(1);
            }
            if (i < 0 || i >= rows[row].length) {
                return found(2);
            }
            int bits = 8 << lanes[row];
            rows[row][i] = v << 32 - bits >> 32 - bits;
            return fine(rows[row][i]);
        }

        int copy(int a, int i, int b, int j, int n) {
            if (noRow(a) || noRow(b)) {
                return BAD;
            }
            if (rows[a] == null || rows[b] == null) {
                return found(1);
            }
            if (lanes[a] != lanes[b]) {
                return found(5);
            }
            if (i < 0 || j < 0 || n < 0 || (long) i + n > rows[a].length || (long) j + n > rows[b].length) {
                return found(2);
            }
            int[] items = Arrays.copyOfRange(rows[a], i, i + n);
            for (int k = 0; k < n; k++) {
                rows[b][j + k] = items[k];
            }
            return fine(n);
        }

        int drop(int row) {
            if (noRow(row)) {
                return BAD;
            }
            if (rows[row] == null) {
                return found(1);
            }
            int had = rows[row].length;
            rows[row] = null;
            return fine(had);
        }

        int feed(long w, int n) {
            if (n < 1 || n > 8) {
                return BAD;
            }
            if (tape.length() + n > 200) {
                return FULL;
            }
            for (int k = n; k > 0; k--) {
                tape.append((char) (w >> 8 * (k - 1) & 255));
            }
            return tape.length();
        }

        int clock() {
            Matcher tokens = Pattern.compile("[ \\n]*(?:([a-z]+)|([0-9]+)|(;)|([^ \\n])|\\z)").matcher(tape);
            List<String> shape = new ArrayList<>(List.of("dial", "#", ";"));
            List<Integer> numbers = new ArrayList<>();
            List<String> sorts = new ArrayList<>();
            int at = 0;
            int place = 0;
            int number = 0;
            boolean ended = false;
            while (!ended && number == 0 && tokens.find(at)) {
                String word = tokens.group().replaceAll("[ \\n]", "");
                place = tokens.end() - word.length();
                at = tokens.end();
                boolean canEnd = shape.isEmpty() && !sorts.isEmpty();
                if (shape.isEmpty()) {
                    shape.addAll(List.of("hand", "sort", "#", ";"));
                }
                String want = shape.remove(0);
                if (word.isEmpty()) {
                    ended = true;
                    number = canEnd ? 0 : 1;
                } else if (want.equals("#")) {
                    boolean is = word.matches("[0-9]{1,3}");
                    int v = is ? Integer.parseInt(word) : 0;
                    boolean dial = numbers.isEmpty();
                    number = !is ? 1 : v < (dial ? 2 : 1) || v > (dial ? 60 : 12) ? 2 : 0;
                    numbers.add(v);
                } else if (want.equals("sort")) {
                    number = word.matches("hour|moon|sweep|back|tide") ? 0 : 1;
                    sorts.add(word);
                } else if (!want.equals(word)) {
                    number = 1;
                } else if (want.equals("hand") && sorts.size() == 4) {
                    number = 3;
                }
            }
            tape.setLength(0);
            if (number != 0) {
                fault = number;
                return -1000100 - place;
            }
            List<Hand> hands = new ArrayList<>();
            for (int h = 0; h < sorts.size(); h++) {
                hands.add(new Hand(sorts.get(h), numbers.get(h + 1), 0));
            }
            clock = new Clock(numbers.get(0), hands);
            before.clear();
            return hands.size();
        }

        int slip(int hand, int marks) {
            if (noHand(hand) || marks < -60 || marks > 60) {
                return BAD;
            }
            before.push(clock);
            if (before.size() > 24) {
                before.removeLast();
            }
            int slipped = Math.floorMod(clock.hands.get(hand).slipped + marks, clock.marks);
            clock = clock.with(hand, slipped);
            return slipped;
        }

        int undo() {
            if (before.isEmpty()) {
                return STATE;
            }
            clock = before.pop();
            return before.size();
        }

        int hand(int hand, int what) {
            if (noHand(hand) || what < 0 || what > 2) {
                return BAD;
            }
            Hand h = clock.hands.get(hand);
            return new int[] {h.turns, h.speed(), h.slipped}[what];
        }

        int points(int hand, int p, int q, int what) {
            if (noHand(hand) || noMoment(p, q) || what < 0 || what > 1) {
                return BAD;
            }
            return clock.arc(hand, Part.of(p, q)).told(what);
        }

        int speed(int hand) {
            return clock.hands.get(hand).speed();
        }

        /** The least y unlike x at which b is where a is at x, and a where b is; null where there is none. */
        Part other(int a, int b, Part x) {
            Part least = null;
            Part shown = x.times(speed(a));
            for (int m = 0; m < Math.abs(speed(b)); m++) {
                Part y = Part.of(shown.above + m * shown.below, speed(b) * shown.below);
                boolean fits = y.times(speed(a)).equals(x.times(speed(b))) && !y.equals(x);
                if (fits && (least == null || y.compareTo(least) < 0)) {
                    least = y;
                }
            }
            return least;
        }

        /** Each x followed by its y; null where both speeds are as great. */
        List<Part> listDoubts(int a, int b) {
            int whole = Math.abs(speed(a) * speed(a) - speed(b) * speed(b));
            if (whole == 0) {
                return null;
            }
            List<Part> list = new ArrayList<>();
            for (int k = 0; k < whole; k++) {
                Part x = Part.of(k, whole);
                Part y = other(a, b, x);
                if (y != null) {
                    list.add(x);
                    list.add(y);
                }
            }
            return list;
        }

        int doubts(int a, int b) {
            if (noPair(a, b)) {
                return BAD;
            }
            List<Part> list = listDoubts(a, b);
            return list == null ? NONE : list.size() / 2;
        }

        int doubt(int a, int b, int i, int what) {
            if (noPair(a, b) || i < 0 || what < 0 || what > 3) {
                return BAD;
            }
            List<Part> list = listDoubts(a, b);
            if (list == null || i >= list.size() / 2) {
                return NONE;
            }
            return list.get(2 * i + what / 2).told(what % 2);
        }

        int isDoubt(int a, int b, int p, int q) {
            if (noPair(a, b) || noMoment(p, q)) {
                return BAD;
            }
            if (Math.abs(speed(a)) == Math.abs(speed(b))) {
                return NONE;
            }
            return other(a, b, Part.of(p, q)) != null ? 1 : 0;
        }

        List<Part> meetings(int a, int b, int how) {
            List<Part> list = new ArrayList<>();
            int quarters = 4 * Math.abs(speed(a) - speed(b));
            for (int k = 0; k < quarters; k++) {
                Part x = Part.of(k, quarters);
                Part apart = x.times(speed(a)).less(x.times(speed(b))).eitherWay();
                if (apart.equals(new Part[] {Part.of(0, 1), Part.of(1, 2), Part.of(1, 4)}[how])) {
                    list.add(x);
                }
            }
            return list;
        }

        int next(int a, int b, int how, int p, int q, int what) {
            if (noPair(a, b) || how < 0 || how > 2 || noMoment(p, q) || what < 0 || what > 1) {
                return BAD;
            }
            Part from = Part.of(p, q);
            Part first = null;
            for (Part x : meetings(a, b, how)) {
                if (first == null || x.less(from).compareTo(first.less(from)) < 0) {
                    first = x;
                }
            }
            return first == null ? NONE : first.told(what);
        }

        int often(int a, int b, int how) {
            if (noPair(a, b) || how < 0 || how > 2) {
                return BAD;
            }
            int n = meetings(a, b, how).size();
            return n == 0 ? NONE : n;
        }

        int all() {
            if (clock.hands.isEmpty()) {
                return STATE;
            }
            int unlike = 0;
            for (int h = 1; h < clock.hands.size(); h++) {
                if (speed(h) != speed(0)) {
                    unlike = Math.abs(speed(h) - speed(0));
                }
            }
            int n = 0;
            for (int k = 0; k < unlike; k++) {
                boolean together = true;
                for (int h = 1; h < clock.hands.size(); h++) {
                    together &= Part.of(k, unlike).times(speed(h)).equals(Part.of(k, unlike).times(speed(0)));
                }
                n += together ? 1 : 0;
            }
            return unlike == 0 ? NONE : n;
        }

        /** The moments at which all hands of these bits are as read; a hand's own are tried, all of them. */
        List<Part> momentsOf(int bits, int row, int i, int parts) {
            List<Part> list = new ArrayList<>();
            int base = Integer.numberOfTrailingZeros(bits);
            for (int m = 0; m < Math.abs(speed(base)); m++) {
                Part x = Part.of(rows[row][i + base] + m * parts, speed(base) * parts);
                boolean fits = true;
                for (int h = 0; h < clock.hands.size(); h++) {
                    fits &= (bits >> h & 1) == 0 || x.times(speed(h)).equals(Part.of(rows[row][i + h], parts));
                }
                if (fits) {
                    list.add(x);
                }
            }
            return list;
        }

        int wrongReading(int row, int n, int i, int parts) {
            if (rows[row] == null) {
                return found(1);
            }
            if (i < 0 || (long) i + n > rows[row].length) {
                return found(2);
            }
            for (int k = i; k < i + n; k++) {
                if (rows[row][k] < 0 || rows[row][k] >= parts) {
                    return BAD;
                }
            }
            return 0;
        }

        int lies(int row, int i, int parts, int what) {
            int hands = clock.hands.size();
            if (hands == 0) {
                return STATE;
            }
            if (noRow(row) || parts < 1 || parts > 720 || what < 0 || what > 3) {
                return BAD;
            }
            int wrongAt = wrongReading(row, hands, i, parts);
            if (wrongAt != 0) {
                return wrongAt;
            }
            int every = (1 << hands) - 1;
            boolean is = !momentsOf(every, row, i, parts).isEmpty();
            if (what == 0) {
                return fine(is ? 1 : 0);
            }
            int moved = 0;
            for (int h = 0; h < hands; h++) {
                int others = every & ~(1 << h);
                moved |= is || others == 0 || !momentsOf(others, row, i, parts).isEmpty() ? 1 << h : 0;
            }
            if (what == 1) {
                return fine(moved);
            }
            Part least = is ? Part.of(0, 1) : null;
            if (!is) {
                for (Part x : momentsOf(every >> 1, row, i, parts)) {
                    Part by = x.times(speed(hands - 1)).less(Part.of(rows[row][i + hands - 1], parts)).eitherWay();
                    least = least == null || by.compareTo(least) < 0 ? by : least;
                }
            }
            return fine(least == null ? NONE : least.told(what - 2));
        }

        int firstLie(int row, int n, int parts) {
            int hands = clock.hands.size();
            if (hands == 0) {
                return STATE;
            }
            if (noRow(row) || n < 1 || n > 10 || parts < 1 || parts > 720) {
                return BAD;
            }
            int wrongAt = wrongReading(row, n * hands, 0, parts);
            if (wrongAt != 0) {
                return wrongAt;
            }
            for (int k = 0; k < n; k++) {
                if (momentsOf((1 << hands) - 1, row, k * hands, parts).isEmpty()) {
                    return fine(k);
                }
            }
            return fine(NONE);
        }

        int glass(int p, int q, int what) {
            if (clock.hands.isEmpty()) {
                return STATE;
            }
            if (noMoment(p, q) || what < 0 || what > 2) {
                return BAD;
            }
            Part x = Part.of(p, q);
            int bits = 0;
            for (int h = 0; h < clock.hands.size(); h++) {
                bits |= clock.arc(h, x).equals(clock.arc(h, x).times(-1)) ? 1 << h : 0;
            }
            return what == 2 ? bits : x.times(-1).told(what);
        }

        int image(int k) {
            if (k < 0 || k > 1) {
                return BAD;
            }
            if (clock.hands.isEmpty()) {
                return STATE;
            }
            images[k] = clock;
            return 1;
        }

        int restore(int k) {
            if (k < 0 || k > 1) {
                return BAD;
            }
            if (images[k] == null) {
                return STATE;
            }
            clock = images[k];
            before.clear();
            return 1;
        }

        int kind(int hand) {
            return noHand(hand) ? BAD : clock.hands.get(hand).kind();
        }

        int as(int hand, int kind) {
            if (noHand(hand) || kind < 0 || kind > 5) {
                return BAD;
            }
            int[] above = {-1, 0, 1, 1, 0, 4};
            for (int k = kind(hand); k >= 0; k = above[k]) {
                if (k == kind) {
                    return fine(hand);
                }
            }
            return found(3);
        }

        int ask(int hand, int what) {
            if (noHand(hand) || what < 0 || what > 1) {
                return BAD;
            }
            trace.clear();
            int[][] bodies = {{}, {11, 21}, {12, 24}, {11, 22}, {13, 23}, {14, 23}};
            return body(bodies[kind(hand)][what], hand, bodies);
        }

        int body(int number, int hand, int[][] bodies) {
            if (trace.size() < 16) {
                trace.add(number);
            }
            int kind = kind(hand);
            return switch (number) {
                case 10 -> hand(hand, 0);
                case 11 -> body(10, hand, bodies) + body(bodies[kind][1], hand, bodies);
                case 12 -> 0 - body(11, hand, bodies);
                case 13 -> body(10, hand, bodies) - 100;
                case 14 -> 2 * body(13, hand, bodies);
                case 20 -> hand;
                case 21 -> body(20, hand, bodies) + hand(hand, 2);
                case 22 -> body(21, hand, bodies) - 1000;
                case 23 -> body(20, hand, bodies) - body(bodies[kind][0], hand, bodies);
                default -> 2 * body(21, hand, bodies);
            };
        }

        int trace(int i) {
            return i < 0 || i >= trace.size() ? NONE : trace.get(i);
        }

        int count(int what) {
            int present = 0;
            for (int[] row : rows) {
                present += row == null ? 0 : 1;
            }
            int slipped = 0;
            for (Hand h : clock.hands) {
                slipped += h.slipped == 0 ? 0 : 1;
            }
            int[] counts = {present, clock.hands.size(), clock.marks, slipped, before.size(), tape.length()};
            return what < 0 || what > 5 ? BAD : counts[what];
        }
    }

    /** One run: calls that are drawn, each asked of both. */
    private static final class Run {
        final AlikeHands x = new AlikeHands();
        final Model m = new Model();
        final Random random;
        final int seed;
        int calls;

        Run(int seed) {
            this.seed = seed;
            random = new Random(seed);
        }

        void due(String call, int got, int want) {
            calls++;
            if (got != want && wrong++ < 20) {
                System.out.println("run " + seed + ", call " + calls + ": " + call + " answered " + got + ", due is " + want);
            }
        }

        /** Mostly from least to most, at times just beyond, seldom far off. */
        int pick(int least, int most) {
            int die = random.nextInt(120);
            if (die == 0) {
                return least - 1;
            }
            if (die == 1) {
                return most + 1;
            }
            if (die == 2) {
                return random.nextBoolean() ? Integer.MIN_VALUE : Integer.MAX_VALUE;
            }
            return least + random.nextInt(Math.max(1, most - least + 1));
        }

        int hand() {
            return pick(0, Math.max(0, m.clock.hands().size() - 1));
        }

        int itemOf(int row) {
            return pick(0, row < 0 || row > 7 || m.rows[row] == null ? 3 : Math.max(0, m.rows[row].length - 1));
        }

        int part() {
            int[] parts = {1, 2, 3, 4, 6, 8, 12, 24, 60, 720};
            return random.nextInt(8) == 0 ? pick(1, 720) : parts[random.nextInt(parts.length)];
        }

        String text() {
            StringBuilder text = new StringBuilder();
            text.append(gap()).append("dial").append(gap()).append(number(2, 60)).append(gap()).append(";");
            int hands = random.nextInt(40) == 0 ? random.nextInt(6) : 1 + random.nextInt(4);
            String[] sorts = {"hour", "moon", "sweep", "back", "tide"};
            for (int h = 0; h < hands; h++) {
                text.append(gap()).append("hand ").append(gap()).append(sorts[random.nextInt(5)]);
                text.append(gap()).append(number(1, 12)).append(gap()).append(";");
            }
            text.append(gap());
            if (random.nextInt(4) == 0) {
                spoil(text);
            }
            return text.toString();
        }

        String number(int least, int most) {
            int v = Math.max(0, Math.min(99999, pick(least, most)));
            return random.nextInt(20) == 0 ? String.format("%0" + (1 + random.nextInt(4)) + "d", v) : "" + v;
        }

        String gap() {
            return new String[] {"", "", "", "", "", " ", "\n", " \n "}[random.nextInt(8)];
        }

        void spoil(StringBuilder text) {
            String signs = " ;0az\n-\u0000\u00ff9hdialmoon";
            int at = random.nextInt(text.length());
            switch (random.nextInt(3)) {
                case 0 -> text.setCharAt(at, signs.charAt(random.nextInt(signs.length())));
                case 1 -> text.deleteCharAt(at);
                default -> text.insert(at, signs.charAt(random.nextInt(signs.length())));
            }
        }

        void readText() {
            String text = text();
            for (int at = 0; at < text.length(); ) {
                int n = Math.min(1 + random.nextInt(8), text.length() - at);
                long w = random.nextLong();
                for (int k = 0; k < n; k++) {
                    w = w << 8 | text.charAt(at + k);
                }
                due("feed", x.feed(w, n), m.feed(w, n));
                at += n;
            }
            due("clock", x.clock(), m.clock());
        }

        void makeReadings() {
            int row = random.nextInt(8);
            int parts = part();
            int hands = m.clock.hands().size();
            int n = 1 + random.nextInt(10);
            int items = Math.min(40, Math.max(n * hands, 1));
            int moment = random.nextInt(720);
            due("row", x.row(row, 2, items), m.row(row, 2, items));
            for (int i = 0; i < items; i++) {
                int arc = random.nextInt(720);
                if (hands > 0 && random.nextInt(12) != 0) {
                    moment = i % hands == 0 ? random.nextInt(720) : moment;
                    arc = Math.floorMod(m.speed(i % hands) * moment, 720);
                }
                int v = arc * parts / 720;
                due("set", x.set(row, i, v), m.set(row, i, v));
            }
            due("firstLie", x.firstLie(row, n, parts), m.firstLie(row, n, parts));
            for (int i = 0; i < n; i++) {
                for (int what = 0; what <= 3; what++) {
                    String call = "lies(" + row + ", " + i * hands + ", " + parts + ", " + what + ")";
                    due(call, x.lies(row, i * hands, parts, what), m.lies(row, i * hands, parts, what));
                }
            }
        }

        void callRows() {
            int a = pick(0, 3);
            int b = pick(0, 3);
            int lane = pick(0, random.nextInt(2) * 2);
            int i = itemOf(a);
            int j = itemOf(b);
            int n = pick(0, 5);
            int v = random.nextInt() >> random.nextInt(32);
            switch (random.nextInt(6)) {
                case 0 -> due("row", x.row(a, lane, n + 3), m.row(a, lane, n + 3));
                case 1 -> due("drop", x.drop(a), m.drop(a));
                case 2, 3 -> due("copy", x.copy(a, i, b, j, n), m.copy(a, i, b, j, n));
                default -> due("set", x.set(a, i, v), m.set(a, i, v));
            }
            for (int k = 0; k < 3; k++) {
                int parts = part();
                due("lies", x.lies(a, k, parts, 0), m.lies(a, k, parts, 0));
            }
        }

        void callClock() {
            int hand = hand();
            int what = pick(0, 2);
            int marks = pick(-60, 60);
            int k = pick(0, 1);
            switch (random.nextInt(12)) {
                case 0 -> due("image", x.image(k), m.image(k));
                case 1 -> due("restore", x.restore(k), m.restore(k));
                case 2, 3, 4 -> due("undo", x.undo(), m.undo());
                case 5 -> due("hand", x.hand(hand, what), m.hand(hand, what));
                default -> due("slip", x.slip(hand, marks), m.slip(hand, marks));
            }
        }

        void callForetold() {
            int a = hand();
            int b = hand();
            int q = pick(1, random.nextBoolean() ? 9999 : 48);
            int p = pick(0, q == Integer.MAX_VALUE ? 5 : q - 1);
            int i = pick(0, 150);
            int what = pick(0, 1);
            int how = pick(0, 2);
            int four = pick(0, 3);
            String call = "of " + a + ", " + b + ", " + p + ", " + q + ", " + i + ", " + what + ", " + how + ", " + four;
            due("points " + call, x.points(a, p, q, what), m.points(a, p, q, what));
            due("glass " + call, x.glass(p, q, how), m.glass(p, q, how));
            due("doubts " + call, x.doubts(a, b), m.doubts(a, b));
            due("doubt " + call, x.doubt(a, b, i, four), m.doubt(a, b, i, four));
            due("isDoubt " + call, x.isDoubt(a, b, p, q), m.isDoubt(a, b, p, q));
            due("next " + call, x.next(a, b, how, p, q, what), m.next(a, b, how, p, q, what));
            due("often " + call, x.often(a, b, how), m.often(a, b, how));
            due("all " + call, x.all(), m.all());
        }

        void callAsked() {
            int hand = hand();
            int kind = pick(0, 5);
            int what = pick(0, 1);
            int i = pick(0, 7);
            due("kind", x.kind(hand), m.kind(hand));
            due("as", x.as(hand, kind), m.as(hand, kind));
            due("ask", x.ask(hand, what), m.ask(hand, what));
            due("trace", x.trace(i), m.trace(i));
            due("trace", x.trace(i + 1), m.trace(i + 1));
        }

        void checkState() {
            int what = pick(0, 5);
            due("count", x.count(what), m.count(what));
            due("status", x.status(), m.status);
            due("fault", x.fault(), m.fault);
        }

        void go() {
            if (random.nextInt(10) != 0) {
                readText();
            }
            // A round of calls is never more than 150 long.
            while (calls < CALLS - 150) {
                switch (random.nextInt(24)) {
                    case 0 -> readText();
                    case 1 -> makeReadings();
                    case 2, 3, 4, 5 -> callRows();
                    case 6, 7, 8 -> callForetold();
                    case 9, 10 -> callAsked();
                    default -> callClock();
                }
                checkState();
            }
        }
    }

    /** Every pair of speeds that there can be: all doubts, and what comes next from moments all about the round. */
    private static void tryAllSpeeds() {
        int[] speeds = new int[36];
        for (int i = 0; i < 12; i++) {
            speeds[i] = i + 1;
            speeds[12 + i] = -1 - i;
            speeds[24 + i] = 2 * i + 2;
        }
        String[] sorts = {"hour", "back", "tide"};
        for (int a = 0; a < 36; a++) {
            for (int b = 0; b < 36; b++) {
                String text = "dial 7;hand " + sorts[a / 12] + (a % 12 + 1) + ";hand " + sorts[b / 12] + (b % 12 + 1) + ";";
                Run run = new Run(100000 + 100 * a + b);
                for (int i = 0; i < text.length(); i++) {
                    run.due("feed", run.x.feed(text.charAt(i), 1), run.m.feed(text.charAt(i), 1));
                }
                run.due("clock", run.x.clock(), run.m.clock());
                run.due("speed", run.x.hand(0, 1), speeds[a]);
                run.due("speed", run.x.hand(1, 1), speeds[b]);
                tryPair(run);
            }
        }
    }

    private static void tryPair(Run run) {
        List<Part> list = run.m.listDoubts(0, 1);
        run.due("doubts", run.x.doubts(0, 1), list == null ? NONE : list.size() / 2);
        for (int i = 0; list != null && i < list.size(); i += 7) {
            for (int what = 0; what <= 1; what++) {
                run.due("doubt", run.x.doubt(0, 1, i / 2, i % 2 * 2 + what), list.get(i).told(what));
            }
        }
        for (int how = 0; how <= 2; how++) {
            run.due("often", run.x.often(0, 1, how), run.m.often(0, 1, how));
            for (int p = 0; p < 97; p += 16) {
                run.due("next", run.x.next(0, 1, how, p, 97, 0), run.m.next(0, 1, how, p, 97, 0));
                run.due("next", run.x.next(0, 1, how, p, 97, 1), run.m.next(0, 1, how, p, 97, 1));
            }
        }
        run.due("all", run.x.all(), run.m.all());
    }

    public static void main(String[] args) {
        int calls = 0;
        for (int seed = 1; seed <= RUNS; seed++) {
            Run run = new Run(seed);
            run.go();
            calls += run.calls;
        }
        tryAllSpeeds();
        System.out.println(RUNS + " runs of " + calls + " calls, " + wrong + " not as the model");
        if (wrong != 0) {
            System.exit(1);
        }
    }
}
