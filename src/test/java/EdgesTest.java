import java.util.function.Consumer;
import java.util.function.Supplier;

/** The document's promises, sentence by sentence: what is due at the edges that they name, and of what they refuse. */
public final class EdgesTest extends Twins {
    private static final String NONE_BY_NONE = NONE + "/" + NONE;
    private static final int[] NO_PARTS = {0, -1, 721, MIN, MAX};

    /** A call of two hands. */
    private interface PairCall {
        int of(AlikeHands x, int a, int b);
    }

    /** A call of a moment. */
    private interface MomentCall {
        int of(AlikeHands x, int p, int q);
    }

    /** A call of one number. */
    private interface NumberCall {
        int of(AlikeHands x, int v);
    }

    private static void pairsAreBad(PairCall call) {
        for (int[] pair : NO_PAIRS) {
            refused("hands " + pair[0] + ", " + pair[1], x -> call.of(x, pair[0], pair[1]), BAD);
        }
        refused("no clock", Twins::bare, x -> call.of(x, 0, 1), BAD);
    }

    private static void momentsAreBad(MomentCall call) {
        for (int[] moment : NO_MOMENTS) {
            refused("moment " + moment[0] + " by " + moment[1], x -> call.of(x, moment[0], moment[1]), BAD);
        }
    }

    private static void numbersAreBad(String what, NumberCall call, int... numbers) {
        for (int v : numbers) {
            refused(what + " " + v, x -> call.of(x, v), BAD);
        }
    }

    /** full(), and what more is done ahead of a call. */
    private static Supplier<AlikeHands> fullThen(Consumer<AlikeHands> more) {
        return () -> {
            AlikeHands x = full();
            more.accept(x);
            return x;
        };
    }

    private static void object() {
        says("An object is used for at most 512 calls after it has been made");
        AlikeHands x = hands("hour 1");
        for (int call = 5; call <= 512; call++) {
            due("call " + call, x.slip(0, 1), (call - 4) % 12);
        }

        says("NONE = -1000000, BAD = -1000001, STATE = -1000002, FULL = -1000003");
        due("NONE", AlikeHands.NONE, -1000000);
        due("BAD", AlikeHands.BAD, -1000001);
        due("STATE", AlikeHands.STATE, -1000002);
        due("FULL", AlikeHands.FULL, -1000003);

        says("Promise 1: No CLOCK.");
        AlikeHands made = new AlikeHands();
        for (int what = 0; what <= 5; what++) {
            due("count " + what, made.count(what), 0);
        }
        due("hand", made.hand(0, 0), BAD);
        due("fault", made.fault(), 0);
        due("status", made.status(), 0);
        due("trace", made.trace(0), NONE);
        due("undo", made.undo(), STATE);
        due("all", made.all(), STATE);
        due("restore 0", made.restore(0), STATE);
        due("restore 1", made.restore(1), STATE);
    }

    private static void row() {
        says("Promise 2: A ROW of a LANE with n ITEMS, in place of what is there: n.");
        AlikeHands x = hands("hour 1");
        fill(x, 0, 2, 9, 8, 7);
        due("shorter, bytes", x.row(0, 0, 2), 2);
        dueItems(x, "shorter", 0, 0, 0);
        due("bytes", x.set(0, 0, 128), -128);
        due("longer, ints", x.row(0, 2, 40), 40);
        due("ints", x.set(0, 39, 128), 128);
        due("none", x.row(0, 2, 0), 0);
        due("no place", x.set(0, 0, 1), PLACE);
        due("a row of none is none that is missing", x.count(0), 1);

        says("Promise 2: BAD: ROW, LANE, n above 40");
        numbersAreBad("row", (y, v) -> y.row(v, 0, 1), NO_ROWS);
        numbersAreBad("lane", (y, v) -> y.row(0, v, 1), -1, 3, MIN, MAX);
        numbersAreBad("n", (y, v) -> y.row(0, 0, v), 41, MAX);

        says("Promise 2: SIZE.");
        refused("n -1", y -> y.row(0, 0, -1), SIZE);
        refused("n MIN", y -> y.row(3, 0, MIN), SIZE);
    }

    private static void dueSets(int lane, int[] values, int[] become) {
        AlikeHands x = hands("hour 1");
        x.row(0, lane, 3);
        for (int k = 0; k < values.length; k++) {
            due("lane " + lane + ", " + values[k], x.set(0, 1, values[k]), become[k]);
            int seen = become[k] >= 0 && become[k] < 720 ? become[k] : BAD;
            dueItems(x, "lane " + lane + ", " + values[k], 0, 0, seen, 0);
        }
    }

    private static void set() {
        says("Promise 3: its lowest bits, as many as the LANE has (read with their sign): what it is then.");
        dueSets(0, new int[] {127, 128, 255, 256, 261, -1, -128, -129, MAX, MIN}, new int[] {127, -128, -1, 0, 5, -1, -128, 127, -1, 0});
        dueSets(1, new int[] {32767, 32768, 65535, 65536, 66000, -32768, -32769, MAX, MIN}, new int[] {32767, -32768, -1, 0, 464, -32768, 32767, -1, 0});
        dueSets(2, new int[] {MAX, MIN, -1, 719, BAD}, new int[] {MAX, MIN, -1, 719, BAD});

        says("Promise 3: ITEM i becomes v");
        AlikeHands x = hands("hour 1");
        x.row(7, 2, 40);
        x.row(6, 2, 40);
        due("the first", x.set(7, 0, 3), 3);
        due("the last", x.set(7, 39, 4), 4);
        due("the first", item(x, 7, 0), 3);
        due("beside it", item(x, 7, 1), 0);
        due("the last", item(x, 7, 39), 4);
        due("the last of the row ahead", item(x, 6, 39), 0);

        says("Promise 3: BAD: ROW; NULL; PLACE.");
        numbersAreBad("row", (y, v) -> y.set(v, 0, 1), NO_ROWS);
        refused("missing", y -> y.set(3, 0, 1), NULL);
        refused("dropped", fullThen(y -> y.drop(0)), y -> y.set(0, 0, 1), NULL);
        for (int i : new int[] {-1, 4, 40, MIN, MAX}) {
            refused("place " + i, y -> y.set(0, i, 1), PLACE);
        }
        refused("place 0 of none", y -> y.set(7, 0, 1), PLACE);
    }

    private static void copy() {
        says("Promise 4: n ITEMS of a from i on come to b from j on, as they were ahead: n.");
        AlikeHands x = hands("hour 1");
        fill(x, 0, 2, 1, 2, 3, 4, 5);
        due("onward within a row", x.copy(0, 0, 0, 2, 3), 3);
        dueItems(x, "onward", 0, 1, 2, 1, 2, 3);
        fill(x, 0, 2, 1, 2, 3, 4, 5);
        due("back within a row", x.copy(0, 2, 0, 0, 3), 3);
        dueItems(x, "back", 0, 3, 4, 5, 4, 5);
        fill(x, 1, 2, 9, 9, 9, 9, 9);
        due("to the end of another", x.copy(0, 0, 1, 3, 2), 2);
        dueItems(x, "to the end", 1, 9, 9, 9, 3, 4);
        due("from the end", x.copy(0, 3, 1, 0, 2), 2);
        dueItems(x, "from the end", 1, 4, 5, 9, 3, 4);
        due("all of it", x.copy(0, 0, 1, 0, 5), 5);
        dueItems(x, "all of it", 1, 3, 4, 5, 4, 5);
        x.row(6, 0, 40);
        x.row(7, 0, 40);
        x.set(6, 39, 77);
        due("40", x.copy(6, 0, 7, 0, 40), 40);
        due("the last of 40", item(x, 7, 39), 77);

        says("Promise 4: PLACE (i, j, n below 0, or beyond an end): none at the ends is none beyond");
        due("none of all", x.copy(0, 0, 1, 0, 0), 0);
        due("none at the ends", x.copy(0, 5, 1, 5, 0), 0);
        x.row(2, 2, 0);
        due("none of none", x.copy(2, 0, 2, 0, 0), 0);

        says("Promise 4: BAD: ROWS");
        numbersAreBad("a", (y, v) -> y.copy(v, 0, 0, 0, 0), NO_ROWS);
        numbersAreBad("b", (y, v) -> y.copy(0, 0, v, 0, 0), NO_ROWS);

        says("Promise 4: NULL");
        refused("a", y -> y.copy(3, 0, 0, 0, 0), NULL);
        refused("b", y -> y.copy(0, 0, 3, 0, 0), NULL);
        refused("both", y -> y.copy(3, 0, 3, 0, 0), NULL);

        says("Promise 4: STORE");
        for (int[] lanes : new int[][] {{0, 1}, {1, 0}, {0, 2}, {2, 0}, {1, 2}, {2, 1}}) {
            refused("lanes " + lanes[0] + ", " + lanes[1], y -> y.copy(lanes[0], 0, lanes[1], 0, 1), STORE);
        }
        refused("of none", y -> y.copy(0, 0, 1, 0, 0), STORE);

        says("Promise 4: PLACE (i, j, n below 0, or beyond an end).");
        int[][] beyond = {
            {-1, 0, 1}, {0, -1, 1}, {0, 0, -1}, {-1, 0, 0}, {0, -1, 0}, {5, 0, 0}, {0, 5, 0}, {4, 0, 1}, {0, 4, 1},
            {0, 0, 5}, {3, 0, 2}, {0, 3, 2}, {MIN, 0, 1}, {0, MIN, 1}, {0, 0, MIN}, {MAX, 0, 1}, {0, MAX, 1},
            {0, 0, MAX}, {1, 1, MAX}, {MAX, MAX, MAX}, {MIN, MIN, MIN}, {MAX, 0, MIN}
        };
        for (int[] b : beyond) {
            refused(b[0] + ", " + b[1] + ", " + b[2], y -> y.copy(0, b[0], 0, b[1], b[2]), PLACE);
        }
        refused("beyond the shorter one", fullThen(y -> y.row(3, 0, 2)), y -> y.copy(0, 0, 3, 0, 3), PLACE);
        refused("beyond the shorter one", fullThen(y -> y.row(3, 0, 2)), y -> y.copy(3, 0, 0, 0, 3), PLACE);
    }

    private static void drop() {
        says("Promise 5: A ROW is missing from now on: how many ITEMS it had.");
        AlikeHands x = new AlikeHands();
        for (int n : new int[] {0, 1, 40}) {
            x.row(0, 0, n);
            x.row(7, 2, n);
            due("row 0", x.drop(0), n);
            due("row 7 is there", x.count(0), 1);
            due("row 7", x.drop(7), n);
            due("none is there", x.count(0), 0);
            due("missing", x.set(0, 0, 1), NULL);
            due("missing to a copy", x.copy(7, 0, 7, 0, 0), NULL);
        }

        says("Promise 5: BAD; NULL.");
        numbersAreBad("row", (y, v) -> y.drop(v), NO_ROWS);
        refused("missing", y -> y.drop(3), NULL);
        refused("dropped", fullThen(y -> y.drop(0)), y -> y.drop(0), NULL);
    }

    private static void feed() {
        says("Promise 6: The lowest n bytes of w (1 to 8), the highest of them first, come behind the tape: how many it has.");
        AlikeHands x = new AlikeHands();
        due("1", x.feed(0x7878787878787864L, 1), 1); // d
        due("8", x.feed(0x69616C2039393B20L, 8), 9); // ial 99;
        due("read in this order", x.clock(), -1000105);
        due("its fault", x.fault(), 2);
        due("2 of a negative one", x.feed(0xFFFFFFFFFFFF6469L, 2), 2); // di
        due("7 of a negative one", x.feed(0xFF616C20393B6861L, 7), 9); // al 9;ha
        due("8", x.feed(0x6E64206D6F6F6E20L, 8), 17); // nd moon
        due("4", x.feed(0x313B0A20L, 4), 21);
        due("read in this order", x.clock(), 1);
        due("8, all bits", x.feed(-1L, 8), 8);
        due("bytes of all bits are none of a text", x.clock(), -1000100);

        says("Promise 6: BAD: n");
        for (int n : new int[] {0, 9, -1, MIN, MAX}) {
            refused("n " + n, y -> y.feed(0x3B, n), BAD);
        }

        says("Promise 6: FULL: none comes.");
        refused("1 beyond 200", Twins::brimming, y -> y.feed(0x3B, 1), FULL);
        refused("8 beyond 200", Twins::brimming, y -> y.feed(0x3B3B3B3B3B3B3B3BL, 8), FULL);
        AlikeHands most = new AlikeHands();
        for (int n = 7; n <= 196; n += 7) {
            due("7", most.feed(0x20202020202020L, 7), n);
        }
        due("5 beyond 196", most.feed(0x3B3B3B3B3BL, 5), FULL);
        due("none came", most.count(5), 196);
        due("4, just the last", most.feed(0x2020203BL, 4), 200);
        due("none came of what was refused", most.clock(), -1000100 - 199);
        due("room again behind clock", most.feed(0x2020202020202020L, 8), 8);
    }

    private static void clock() {
        says("Promise 7: The tape, empty then, is read: how many HANDS there are.");
        AlikeHands x = new AlikeHands();
        due("an empty one", x.clock(), -1000100);
        for (int n = 1; n <= 4; n++) {
            due("hands", read(x, "dial 60;" + "hand hour 1;".repeat(n)), n);
            due("empty then", x.count(5), 0);
        }
        due("a fault", read(x, "dial 60; "), -1000109);
        due("empty behind a fault", x.count(5), 0);
        due("nothing of an older tape is read", read(x, "hand hour 1;"), -1000100);

        says("Promise 7: -1000100 less the place of a FAULT");
        due("the least", read(x, ";"), -1000100);
        due("the greatest", read(x, " ".repeat(200)), -1000300);

        says("Promise 7: all but the tape, and what fault() tells, stays.");
        for (String text : new String[] {"dial 1;", "dial 61;hand tide 7;", "dial 9;hand tide 13;hand hour 1;"}) {
            AlikeHands y = kept();
            due("a fault", read(y, text) <= -1000100 ? 1 : 0, 1);
            due("its number, as ahead", y.fault(), 2);
            due("status", y.status(), 3);
            due("all stays", everything(y), everything(kept()));
        }
        AlikeHands late = kept();
        read(late, "dial 9;hand tide 7;hand tide 7");
        due("a fault at the end", late.fault(), 1);
        due("MARKS", late.count(2), 30);
        due("HANDS", late.count(1), 4);
        due("TURNS", late.hand(0, 0), 1);
        due("acts", late.undo(), 2);
    }

    private static void fault() {
        says("Promise 8: The number of the latest FAULT; 0 before one.");
        AlikeHands x = new AlikeHands();
        due("before one", x.fault(), 0);
        read(x, "dial 9;hand hour 1;");
        due("behind a clock", x.fault(), 0);
        read(x, "dial 9;hand hour 13;");
        due("2", x.fault(), 2);
        read(x, "dial 9;" + "hand hour 1;".repeat(5));
        due("3", x.fault(), 3);
        read(x, "dial 9;hand hour 1;");
        due("3 still, behind a clock", x.fault(), 3);
        x.slip(0, 99);
        x.set(0, 0, 0);
        x.feed(0, 0);
        due("3 still, behind what was refused", x.fault(), 3);
        x.clock();
        due("1, of an empty tape", x.fault(), 1);
    }

    private static void slip() {
        says("Promise 9: A HAND SLIPS by so many MARKS (-60 to 60): what it SLIPPED then, 0 to MARKS less 1.");
        int[][] slips = {
            // MARKS, by, then, by, then
            {2, 60, 0, -1, 1}, {2, -60, 0, 1, 1}, {7, 60, 4, 2, 6}, {7, -60, 3, 4, 0}, {59, -60, 58, 1, 0},
            {60, 60, 0, -60, 0}, {60, 59, 59, 1, 0}, {60, -1, 59, 60, 59}, {12, 11, 11, 2, 1}, {12, 0, 0, -1, 11}
        };
        for (int[] s : slips) {
            AlikeHands x = clockOf(clockText(s[0], "hour 1", "back 1"));
            due(s[0] + " MARKS, by " + s[1], x.slip(1, s[1]), s[2]);
            due(s[0] + " MARKS, then by " + s[3], x.slip(1, s[3]), s[4]);
            due("it tells so", x.hand(1, 2), s[4]);
            due("the other hand", x.hand(0, 2), 0);
        }

        says("Promise 9: BAD.");
        numbersAreBad("hand", (y, v) -> y.slip(v, 1), NO_HANDS);
        numbersAreBad("marks", (y, v) -> y.slip(0, v), -61, 61, MIN, MAX);
        refused("no clock", Twins::bare, y -> y.slip(0, 1), BAD);
    }

    private static void undo() {
        says("Promise 10: The latest ACT is undone: how many can be undone yet.");
        AlikeHands x = hands("hour 1", "back 1");
        x.slip(0, 7);
        x.slip(0, 7);
        x.slip(1, -7);
        due("two yet", x.undo(), 2);
        due("hand 1", x.hand(1, 2), 0);
        due("hand 0", x.hand(0, 2), 2);
        due("one yet", x.undo(), 1);
        due("hand 0", x.hand(0, 2), 7);
        due("none yet", x.undo(), 0);
        due("hand 0", x.hand(0, 2), 0);

        says("Promise 10: STATE: none.");
        due("all undone", x.undo(), STATE);
        due("and again", x.undo(), STATE);
        refused("no clock", Twins::bare, y -> y.undo(), STATE);
        AlikeHands refusedSlip = hands("hour 1");
        refusedSlip.slip(0, 61);
        due("a slip that was refused is none", refusedSlip.undo(), STATE);
    }

    private static void hand() {
        says("Promise 11: Of a HAND: 0 TURNS, 1 SPEED, 2 what it SLIPPED. BAD.");
        AlikeHands x = hands("back 12");
        x.slip(0, -1);
        due("TURNS", x.hand(0, 0), 12);
        due("SPEED", x.hand(0, 1), -12);
        due("what it SLIPPED", x.hand(0, 2), 11);
        due("hand 1 of one", x.hand(1, 0), BAD);
        numbersAreBad("hand", (y, v) -> y.hand(v, 0), NO_HANDS);
        numbersAreBad("what", (y, v) -> y.hand(0, v), -1, 3, MIN, MAX);
        refused("no clock", Twins::bare, y -> y.hand(0, 0), BAD);
    }

    private static void points() {
        says("Promise 12: the MOMENT p by q (q 1 to 9999, p 0 to q less 1)");
        AlikeHands x = hands("hour 1", "tide 12");
        due("0 by 1", points(x, 0, 0, 1), "0/1");
        due("0 by 9999", points(x, 1, 0, 9999), "0/1");
        due("9998 by 9999", points(x, 0, 9998, 9999), "9998/9999");
        x.slip(1, 11);
        due("the greatest numbers", points(x, 1, 9998, 9999), "4063/4444");
        momentsAreBad((y, p, q) -> y.points(0, p, q, 0));

        says("Promise 12: above (what = 0), below (1). BAD.");
        numbersAreBad("what", (y, v) -> y.points(0, 1, 2, v), -1, 2, MIN, MAX);
        numbersAreBad("hand", (y, v) -> y.points(v, 1, 2, 0), NO_HANDS);
        refused("no clock", Twins::bare, y -> y.points(0, 0, 1, 0), BAD);
    }

    private static void doubts() {
        says("Promise 13: DOUBTS: how many; NONE.");
        due("none is 0", hands("hour 1", "back 2").doubts(0, 1), 0);
        due("the most", hands("hour 1", "tide 12").doubts(0, 1), 552);
        due("the most of hands that go both ways", hands("back 1", "tide 12").doubts(0, 1), 550);
        due("NONE", hands("tide 6", "back 12").doubts(0, 1), NONE);
        says("Promise 13: BAD: alike, too.");
        pairsAreBad((y, a, b) -> y.doubts(a, b));

        says("Promise 14: NONE: not so many.");
        AlikeHands x = hands("hour 1", "hour 12");
        due("the last", doubt(x, 131), "142/143 131/143");
        due("just beyond", doubt(x, 132), NONE_BY_NONE + " " + NONE_BY_NONE);
        due("far beyond", doubt(x, MAX), NONE_BY_NONE + " " + NONE_BY_NONE);
        AlikeHands most = hands("hour 1", "tide 12");
        due("the last of the most", doubt(most, 551), "574/575 551/575");
        due("just beyond the most", doubt(most, 552), NONE_BY_NONE + " " + NONE_BY_NONE);
        says("Promise 14: BAD: alike, i below 0, too.");
        pairsAreBad((y, a, b) -> y.doubt(a, b, 0, 0));
        numbersAreBad("i", (y, v) -> y.doubt(0, 2, v, 0), -1, MIN);
        numbersAreBad("what", (y, v) -> y.doubt(0, 2, 0, v), -1, 4, MIN, MAX);
        due("i below 0 of none", hands("hour 1", "hour 1").doubt(0, 1, -1, 0), BAD);
        due("what of not so many", x.doubt(0, 1, 132, 4), BAD);

        says("Promise 15: Whether a MOMENT is one of DOUBTS: 1, 0; NONE: as for DOUBTS.");
        due("just there", x.isDoubt(0, 1, 12, 143), 1);
        due("not in lowest terms", x.isDoubt(0, 1, 828, 9867), 1);
        due("just ahead", x.isDoubt(0, 1, 839, 9999), 0);
        due("just behind", x.isDoubt(0, 1, 840, 9999), 0);
        due("left out", x.isDoubt(0, 1, 13, 143), 0);
        due("0", hands("hour 3", "hour 6").isDoubt(0, 1, 0, 9999), 1);
        due("0 by 1", hands("hour 3", "hour 6").isDoubt(0, 1, 0, 1), 1);
        due("one whose other is 0", hands("hour 3", "hour 6").isDoubt(0, 1, 1, 3), 1);
        due("the last", hands("hour 3", "hour 6").isDoubt(0, 1, 8888, 9999), 1);
        due("NONE", hands("hour 1", "hour 1").isDoubt(0, 1, 0, 1), NONE);
        says("Promise 15: BAD: alike, too.");
        pairsAreBad((y, a, b) -> y.isDoubt(a, b, 0, 1));
        momentsAreBad((y, p, q) -> y.isDoubt(0, 2, p, q));
        due("a moment, of hands as great", hands("hour 1", "hour 1").isDoubt(0, 1, 1, 1), BAD);
    }

    private static void next() {
        says("Promise 16: NEXT, how 0, 1, 2, from a MOMENT on: above (what = 0), below (1); NONE.");
        AlikeHands x = hands("back 12", "tide 12");
        due("how 0", next(x, 0, 9998, 9999), "0/1");
        due("how 1", next(x, 1, 9857, 9999), "71/72");
        due("how 1, round", next(x, 1, 9861, 9999), "1/72");
        due("how 2", next(x, 2, 9929, 9999), "143/144");
        due("how 2, round", next(x, 2, 9930, 9999), "1/144");
        due("NONE", next(hands("hour 12", "tide 6"), 0, 0, 1), NONE_BY_NONE);
        says("Promise 16: BAD: alike, too.");
        pairsAreBad((y, a, b) -> y.next(a, b, 0, 0, 1, 0));
        momentsAreBad((y, p, q) -> y.next(0, 2, 0, p, q, 0));
        numbersAreBad("how", (y, v) -> y.next(0, 2, v, 0, 1, 0), -1, 3, MIN, MAX);
        numbersAreBad("what", (y, v) -> y.next(0, 2, 0, 0, 1, v), -1, 2, MIN, MAX);
        AlikeHands alike = hands("hour 1", "hour 1");
        due("how, of alike speeds", alike.next(0, 1, 3, 0, 1, 0), BAD);
        due("a moment, of alike speeds", alike.next(0, 1, 0, 1, 1, 0), BAD);
        due("what, of alike speeds", alike.next(0, 1, 0, 0, 1, 2), BAD);

        says("Promise 17: NEXT: how many in a round; NONE.");
        due("the least", hands("hour 1", "hour 2").often(0, 1, 0), 1);
        due("the most", x.often(0, 1, 2), 72);
        due("NONE", alike.often(0, 1, 2), NONE);
        says("Promise 17: BAD: alike, too.");
        pairsAreBad((y, a, b) -> y.often(a, b, 0));
        numbersAreBad("how", (y, v) -> y.often(0, 2, v), -1, 3, MIN, MAX);
        due("how, of alike speeds", alike.often(0, 1, 3), BAD);

        says("Promise 18: ALL together; NONE. STATE: no CLOCK.");
        due("the least", hands("hour 1", "hour 2").all(), 1);
        due("the most", x.all(), 36);
        due("NONE", hands("hour 1").all(), NONE);
        refused("no clock", Twins::bare, y -> y.all(), STATE);
    }

    private static void lies() {
        says("Promise 19: as many ITEMS as there are HANDS, of a ROW from i on");
        AlikeHands x = hands("hour 1", "hour 1");
        fill(x, 0, 2, -1, 3, 3, 4, 12);
        due("the item ahead is none of it", x.lies(0, 1, 12, 0), 1);
        due("the item behind is none of it", x.lies(0, 2, 12, 0), 0);
        fill(x, 1, 2, 3, 3);
        due("from 0 to the end", x.lies(1, 0, 12, 0), 1);
        x.row(7, 2, 40);
        x.set(7, 39, 1);
        due("the last two of 40", x.lies(7, 38, 12, 0), 0);

        says("Promise 19: (parts of D, 1 to 720, 0 to D less 1 each)");
        due("D 1", lies(x, 0, 1, 0, 0), 1);
        due("D 720, its last part", lies(x, 0, 720, 719, 719), 1);
        due("an item D less 1", x.lies(0, 1, 4, 0), 1);

        says("Promise 19: whether there is a MOMENT (what = 0: 1, 0), MOVED (1), by how much the last HAND LIES: above (2), below (3); NONE.");
        due("what 0", lies(x, 0, 12, 3, 4), 0);
        due("what 1", lies(x, 1, 12, 3, 4), 3);
        due("what 2, 3", lie(x, 12, 3, 4), "1/12");
        due("NONE", lie(hands("hour 1", "hour 1", "hour 1"), 12, 3, 4, 4), NONE_BY_NONE);

        says("Promise 19: BAD: ROW, D, what");
        numbersAreBad("row", (y, v) -> y.lies(v, 0, 30, 0), NO_ROWS);
        numbersAreBad("D", (y, v) -> y.lies(0, 0, v, 0), NO_PARTS);
        numbersAreBad("what", (y, v) -> y.lies(0, 0, 30, v), -1, 4, MIN, MAX);
        refused("D, of a row that is missing", y -> y.lies(3, 0, 0, 0), BAD);
        says("Promise 19: STATE: no CLOCK (ahead of BAD)");
        refused("no clock", Twins::bare, y -> y.lies(0, 0, 30, 0), STATE);
        refused("no clock, ROW", Twins::bare, y -> y.lies(8, 0, 30, 0), STATE);
        refused("no clock, D", Twins::bare, y -> y.lies(0, 0, 0, 0), STATE);
        refused("no clock, what", Twins::bare, y -> y.lies(0, 0, 30, 4), STATE);
        says("Promise 19: NULL; PLACE");
        refused("missing", y -> y.lies(3, 0, 30, 0), NULL);
        for (int i : new int[] {-1, 1, 4, MIN, MAX}) {
            refused("four items from " + i, y -> y.lies(0, i, 30, 0), PLACE);
        }
        refused("a row shorter than the hands are many", y -> y.lies(1, 0, 720, 0), PLACE);
        refused("a row of none", y -> y.lies(7, 0, 30, 0), PLACE);
        says("Promise 19: then BAD: an ITEM.");
        refused("D", y -> y.lies(0, 0, 4, 0), BAD);
        refused("the first", y -> y.lies(2, 1, 719, 0), BAD);
        refused("the last", fullThen(y -> y.set(0, 3, 30)), y -> y.lies(0, 0, 30, 0), BAD);
        refused("below 0", fullThen(y -> y.set(0, 3, -1)), y -> y.lies(0, 0, 30, 0), BAD);
        refused("MIN", fullThen(y -> y.set(2, 1, MIN)), y -> y.lies(2, 0, 720, 0), BAD);
    }

    private static void firstLie() {
        says("Promise 20: FIRST LIE of n readings (1 to 10), of a ROW from its beginning on; NONE.");
        AlikeHands x = hands("hour 1", "hour 1", "hour 1", "hour 1");
        x.row(0, 0, 40);
        for (int n = 1; n <= 10; n++) {
            due("none of " + n, x.firstLie(0, n, 2), NONE);
        }
        for (int lie = 9; lie >= 0; lie--) {
            x.set(0, 4 * lie + 3, 1);
            due("the first", x.firstLie(0, 10, 2), lie);
            due("ahead of the first", lie < 1 ? NONE : x.firstLie(0, lie, 2), NONE);
        }
        AlikeHands one = hands("hour 1");
        fill(one, 0, 0, 0, 1, 2, 3);
        due("one hand never lies", one.firstLie(0, 4, 4), NONE);
        due("an item behind them is none of them", one.firstLie(0, 3, 3), NONE);
        due("D 1", one.firstLie(0, 1, 1), NONE);
        due("D 720", one.firstLie(0, 4, 720), NONE);

        says("Promise 20: BAD: ROW, n, D");
        numbersAreBad("row", (y, v) -> y.firstLie(v, 1, 30), NO_ROWS);
        numbersAreBad("n", (y, v) -> y.firstLie(0, v, 30), 0, -1, 11, MIN, MAX);
        numbersAreBad("D", (y, v) -> y.firstLie(0, 1, v), NO_PARTS);
        says("Promise 20: STATE: no CLOCK (ahead of BAD)");
        refused("no clock", Twins::bare, y -> y.firstLie(0, 1, 30), STATE);
        refused("no clock, ROW", Twins::bare, y -> y.firstLie(8, 1, 30), STATE);
        refused("no clock, n", Twins::bare, y -> y.firstLie(0, 0, 30), STATE);
        refused("no clock, D", Twins::bare, y -> y.firstLie(0, 1, 0), STATE);
        says("Promise 20: NULL; PLACE");
        refused("missing", y -> y.firstLie(3, 1, 30), NULL);
        refused("8 items of 4", y -> y.firstLie(0, 2, 30), PLACE);
        refused("4 items of 3", y -> y.firstLie(1, 1, 720), PLACE);
        refused("4 items of none", y -> y.firstLie(7, 1, 720), PLACE);
        x.row(0, 0, 39);
        due("40 items of 39", x.firstLie(0, 10, 30), PLACE);
        says("Promise 20: then BAD: an ITEM.");
        refused("D", y -> y.firstLie(0, 1, 4), BAD);
        refused("in a reading behind the first that lies", fullThen(y -> y.set(2, 7, 720)), y -> y.firstLie(2, 2, 720), BAD);
        refused("below 0", fullThen(y -> y.set(0, 0, -1)), y -> y.firstLie(0, 1, 30), BAD);
    }

    private static void glass() {
        says("Promise 21: GLASS: above (what = 0), below (1); TRUE GLASS (2).");
        AlikeHands x = hands("hour 1", "tide 12");
        due("above, below", glass(x, 2, 9998), "4998/4999");
        due("bits", x.glass(1, 48, 2), 2);
        x.slip(1, 11);
        due("bits, slipped", x.glass(5, 576, 2), 0);
        due("bits, slipped", x.glass(2, 576, 2), 2);
        says("Promise 21: BAD; STATE: no CLOCK (ahead of BAD).");
        momentsAreBad((y, p, q) -> y.glass(p, q, 0));
        momentsAreBad((y, p, q) -> y.glass(p, q, 2));
        numbersAreBad("what", (y, v) -> y.glass(0, 1, v), -1, 3, MIN, MAX);
        refused("no clock", Twins::bare, y -> y.glass(0, 1, 0), STATE);
        refused("no clock, a moment", Twins::bare, y -> y.glass(1, 1, 0), STATE);
        refused("no clock, what", Twins::bare, y -> y.glass(0, 1, 3), STATE);
    }

    private static void image() {
        says("Promise 22: An IMAGE (0, 1) is kept of the CLOCK: 1.");
        AlikeHands x = hands("hour 1", "back 2");
        x.slip(1, 4);
        due("image 0", x.image(0), 1);
        due("acts stay", x.count(4), 1);
        due("none is kept of 1", x.restore(1), STATE);
        x.slip(1, 1);
        due("image 1", x.image(1), 1);
        x.slip(1, 1);
        due("restore 0", x.restore(0), 1);
        due("what 0 kept", x.hand(1, 2), 4);
        due("restore 1", x.restore(1), 1);
        due("what 1 kept", x.hand(1, 2), 5);
        x.slip(1, 1);
        due("image 0 anew", x.image(0), 1);
        x.restore(1);
        x.restore(0);
        due("what 0 kept anew", x.hand(1, 2), 6);

        says("Promise 22: BAD; STATE: no CLOCK.");
        numbersAreBad("image", (y, v) -> y.image(v), -1, 2, MIN, MAX);
        refused("no clock", Twins::bare, y -> y.image(0), STATE);
        refused("no clock", Twins::bare, y -> y.image(1), STATE);

        says("Promise 23: The CLOCK is as an IMAGE kept it (no ACT can be undone then): 1.");
        AlikeHands y = full();
        int tape = y.count(5);
        due("restore", y.restore(1), 1);
        due("HANDS", y.count(1), 2);
        due("MARKS", y.count(2), 12);
        due("TURNS", y.hand(1, 0), 2);
        due("KIND", y.kind(1), 4);
        due("slipped", y.hand(0, 2), 5);
        due("not slipped", y.hand(1, 2), 0);
        due("no act", y.count(4), 0);
        due("none to undo", y.undo(), STATE);
        due("hand 2 of two", y.hand(2, 0), BAD);
        due("the tape stays", y.count(5), tape);
        due("rows stay", y.count(0), 4);
        due("the trace stays", y.trace(0), 12);
        due("status stays", y.status(), 3);
        y.slip(0, 1);
        due("an act behind it", y.undo(), 0);
        due("as the image kept it, then", y.hand(0, 2), 5);
        y.slip(0, 1);
        due("restore again", y.restore(1), 1);
        due("the image is as it was", y.hand(0, 2), 5);

        says("Promise 23: BAD; STATE: none was kept.");
        numbersAreBad("image", (z, v) -> z.restore(v), -1, 2, MIN, MAX);
        refused("0, where 1 was kept", z -> z.restore(0), STATE);
        refused("no clock", Twins::bare, z -> z.restore(1), STATE);
    }

    private static void kind() {
        says("Promise 24: The KIND of a HAND, as told (1 to 5). BAD.");
        due("1, the least", hands("hour 1").kind(0), 1);
        due("5, the greatest", hands("tide 1").kind(0), 5);
        numbersAreBad("hand", (y, v) -> y.kind(v), NO_HANDS);
        due("hand 1 of one", hands("hour 1").kind(1), BAD);
        refused("no clock", Twins::bare, y -> y.kind(0), BAD);

        says("Promise 25: A HAND is taken as one of a KIND (0 .. 5): the HAND's number.");
        AlikeHands x = hands("hour 1", "hour 1", "hour 1", "tide 1");
        due("0", x.as(3, 0), 3);
        due("5", x.as(3, 5), 3);
        due("as a BACK", x.as(3, 4), 3);
        due("it is what it was", x.kind(3), 5);
        says("Promise 25: BAD; KIND: it is no such one.");
        numbersAreBad("hand", (y, v) -> y.as(v, 0), NO_HANDS);
        numbersAreBad("kind", (y, v) -> y.as(0, v), -1, 6, MIN, MAX);
        refused("no clock", Twins::bare, y -> y.as(0, 0), BAD);
        for (int kind = 2; kind <= 5; kind++) {
            int no = kind;
            refused("an HOUR as " + kind, y -> y.as(0, no), KIND);
        }
    }

    private static void ask() {
        says("Promise 26: An ASK (0, 1) of a HAND. BAD.");
        AlikeHands x = clockOf(clockText(60, "moon 12", "sweep 12", "tide 12", "hour 12"));
        for (int h = 0; h < 4; h++) {
            x.slip(h, 59);
        }
        due("SIZE, the greatest slip", x.ask(0, 0), -(12 + 2 * 59));
        due("MARK", x.ask(1, 1), 1 + 59 - 1000);
        due("SIZE", x.ask(2, 0), 2 * (12 - 100));
        due("MARK", x.ask(2, 1), 2 + 176);
        due("MARK of the last", x.ask(3, 1), 3 + 59);
        numbersAreBad("hand", (y, v) -> y.ask(v, 0), NO_HANDS);
        numbersAreBad("what", (y, v) -> y.ask(0, v), -1, 2, MIN, MAX);
        refused("no clock", Twins::bare, y -> y.ask(0, 0), BAD);

        says("Promise 26: THE TRACE is empty ahead of it (where that is refused it stays).");
        dueAsk(x, 0, 0, -(12 + 2 * 59), 12, 11, 10, 24, 21, 20);
        dueAsk(x, 3, 1, 62, 21, 20);
        due("no more of the one before", x.trace(5), NONE);
        due("refused", x.ask(4, 0), BAD);
        due("refused", x.ask(0, 2), BAD);
        due("it stays", x.trace(0), 21);
        due("it stays", x.trace(1), 20);
        due("no more", x.trace(2), NONE);

        says("Promise 27: Number i of THE TRACE; NONE.");
        due("before an ask", new AlikeHands().trace(0), NONE);
        for (int i : new int[] {-1, 2, 15, 16, 17, MIN, MAX}) {
            due("trace " + i, x.trace(i), NONE);
        }
        read(x, clockText(12, "hour 1"));
        due("it stays behind a clock", x.trace(0), 21);
    }

    private static void count() {
        says("Promise 28: How many: 0 ROWS, 1 HANDS, 2 MARKS (0 without a CLOCK), 3 HANDS that have SLIPPED, 4 ACTS that can be undone, 5 bytes on the tape.");
        int[] ofFull = {4, 4, 30, 2, 3, 19};
        int[] ofBare = {4, 0, 0, 0, 0, 19};
        for (int what = 0; what <= 5; what++) {
            due("full " + what, full().count(what), ofFull[what]);
            due("without a clock " + what, bare().count(what), ofBare[what]);
        }
        AlikeHands x = brimming();
        due("200 bytes", x.count(5), 200);
        for (int row = 0; row < 8; row++) {
            x.row(row, 0, 0);
        }
        due("8 rows", x.count(0), 8);
        AlikeHands slipped = hands("hour 1", "hour 1", "hour 1", "hour 1");
        for (int h = 0; h < 4; h++) {
            slipped.slip(h, 11);
            due("slipped", slipped.count(3), h + 1);
        }
        slipped.slip(0, 1);
        due("slipped until it is at its mark", slipped.count(3), 3);
        slipped.slip(0, 12);
        due("slipped by all MARKS", slipped.count(3), 3);
        slipped.undo();
        slipped.undo();
        due("undone", slipped.count(3), 4);

        says("Promise 28: BAD.");
        numbersAreBad("what", (y, v) -> y.count(v), -1, 6, MIN, MAX);
    }

    /** A finding is told, then another call that tells none. */
    private static void dueStatus(String what, Call call) {
        AlikeHands x = full();
        due(what + ", ahead", x.status(), 3);
        call.of(x);
        due(what, x.status(), 0);
    }

    private static void status() {
        says("Promise 29: Of the latest call with a ROW, or as(): 0: it had none");
        dueStatus("row", y -> y.row(0, 0, 1));
        dueStatus("set", y -> y.set(0, 0, 1));
        dueStatus("copy", y -> y.copy(0, 0, 0, 0, 0));
        dueStatus("drop", y -> y.drop(7));
        dueStatus("lies", y -> y.lies(0, 0, 30, 0));
        dueStatus("lies, NONE", y -> y.lies(2, 0, 720, 2));
        dueStatus("firstLie", y -> y.firstLie(0, 1, 30));
        dueStatus("as", y -> y.as(0, 0));

        says("Promise 29: or there was none.");
        due("a new one", new AlikeHands().status(), 0);
        AlikeHands x = hands("hour 1");
        x.slip(0, 1);
        x.ask(0, 0);
        due("none with a row", x.status(), 0);
        x.set(8, 0, 0);
        x.as(1, 0);
        due("none but BAD", x.status(), 0);

        says("Promise 29: that was not BAD, STATE, FULL");
        refused("BAD of a row", y -> y.row(8, 0, 0), BAD);
        refused("BAD of an item", y -> y.lies(0, 0, 1, 0), BAD);
        refused("BAD of as", y -> y.as(0, 6), BAD);
        refused("STATE of lies", Twins::bare, y -> y.lies(0, 0, 30, 0), STATE);
        refused("STATE of firstLie", Twins::bare, y -> y.firstLie(0, 1, 30), STATE);

        says("Promise 29: the latest call with a ROW, or as(): no other");
        AlikeHands other = full();
        other.count(0);
        other.slip(0, 1);
        other.undo();
        other.image(0);
        other.restore(0);
        other.kind(0);
        other.ask(0, 0);
        other.clock();
        due("as ahead", other.status(), 3);
    }

    public static void main(String[] args) {
        object();
        row();
        set();
        copy();
        drop();
        feed();
        clock();
        fault();
        slip();
        undo();
        hand();
        points();
        doubts();
        next();
        lies();
        firstLie();
        glass();
        image();
        kind();
        ask();
        count();
        status();
        end();
    }
}
