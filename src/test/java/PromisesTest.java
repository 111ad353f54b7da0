/** The promises one after another: what is ordinary, the edges that the document names, what is wrong. */
public final class PromisesTest extends Trial {
    private static final String FIVE_SORTS_BUT_TIDE = "dial 12; hand hour 1; hand moon 2; hand sweep 3; hand back 4;";

    private static void duePair(String what, int above, int below, int wantAbove, int wantBelow) {
        due(what + " above", above, wantAbove);
        due(what + " below", below, wantBelow);
    }

    private static void duePoints(AlikeHands x, int hand, int p, int q, int above, int below) {
        String what = "points(" + hand + ", " + p + ", " + q + ")";
        duePair(what, x.points(hand, p, q, 0), x.points(hand, p, q, 1), above, below);
    }

    private static void dueNext(AlikeHands x, int how, int p, int q, int above, int below) {
        String what = "next(0, 1, " + how + ", " + p + ", " + q + ")";
        duePair(what, x.next(0, 1, how, p, q, 0), x.next(0, 1, how, p, q, 1), above, below);
    }

    private static void dueDoubt(AlikeHands x, int i, int xAbove, int xBelow, int yAbove, int yBelow) {
        duePair("doubt " + i + " x", x.doubt(0, 1, i, 0), x.doubt(0, 1, i, 1), xAbove, xBelow);
        duePair("doubt " + i + " y", x.doubt(0, 1, i, 2), x.doubt(0, 1, i, 3), yAbove, yBelow);
    }

    private static void promise1NewObject() {
        AlikeHands x = new AlikeHands();
        for (int what = 0; what <= 5; what++) {
            due("count(" + what + ") of a new one", x.count(what), 0);
        }
        due("fault of a new one", x.fault(), 0);
        due("status of a new one", x.status(), 0);
        due("trace of a new one", x.trace(0), NONE);
        due("all of a new one", x.all(), STATE);
        due("undo of a new one", x.undo(), STATE);
        due("hand of a new one", x.hand(0, 0), BAD);
        for (int row = 0; row <= 7; row++) {
            due("drop(" + row + ") of a new one", x.drop(row), NULL);
        }
        due("constants", AlikeHands.NONE + AlikeHands.BAD + AlikeHands.STATE + AlikeHands.FULL, -4000006);
    }

    private static void promise2Row() {
        AlikeHands x = new AlikeHands();
        due("row 0", x.row(0, 0, 0), 0);
        due("row 7", x.row(7, 2, 40), 40);
        due("count of rows", x.count(0), 2);
        due("row anew", x.row(7, 1, 3), 3);
        due("count of rows", x.count(0), 2);
        due("row -1", x.row(-1, 0, 1), BAD);
        due("row 8", x.row(8, 0, 1), BAD);
        due("lane -1", x.row(1, -1, 1), BAD);
        due("lane 3", x.row(1, 3, 1), BAD);
        due("n 41", x.row(1, 0, 41), BAD);
        due("n MAX", x.row(1, 0, MAX), BAD);
        due("BAD ahead of SIZE, row", x.row(8, 0, -1), BAD);
        due("BAD ahead of SIZE, lane", x.row(0, 3, -1), BAD);
        due("SIZE", x.row(7, 0, -1), SIZE);
        due("SIZE, MIN", x.row(7, 0, MIN), SIZE);
        due("a refused row stays", x.drop(7), 3);
        AlikeHands c = clockOf("dial 2; hand hour 1;");
        fill(c, 1, 2, 5, 6);
        due("row in place", c.row(1, 0, 2), 2);
        due("items 0 at first", c.lies(1, 0, 1, 0), 1);
        due("items 0 at first", c.lies(1, 1, 1, 0), 1);
    }

    private static void promise3Set() {
        AlikeHands x = new AlikeHands();
        due("set of a missing row", x.set(0, 0, 1), NULL);
        x.row(0, 0, 2);
        due("byte 127", x.set(0, 0, 127), 127);
        due("byte 128", x.set(0, 0, 128), -128);
        due("byte 255", x.set(0, 1, 255), -1);
        due("byte -129", x.set(0, 1, -129), 127);
        x.row(1, 1, 1);
        due("short 32768", x.set(1, 0, 32768), -32768);
        due("short 65537", x.set(1, 0, 65537), 1);
        due("short 200", x.set(1, 0, 200), 200);
        x.row(2, 2, 1);
        due("int 32768", x.set(2, 0, 32768), 32768);
        due("int MIN", x.set(2, 0, MIN), MIN);
        due("int that looks like BAD", x.set(2, 0, BAD), BAD);
        due("status behind it", x.status(), 0);
        due("row -1", x.set(-1, 0, 0), BAD);
        due("row 8", x.set(8, 0, 0), BAD);
        due("place -1", x.set(0, -1, 0), PLACE);
        due("place 2 of 2", x.set(0, 2, 0), PLACE);
        due("place MAX", x.set(0, MAX, 0), PLACE);
        due("place MIN", x.set(0, MIN, 0), PLACE);
        x.row(3, 0, 0);
        due("place 0 of none", x.set(3, 0, 0), PLACE);
    }

    private static void promise4Copy() {
        AlikeHands x = clockOf("dial 2; hand hour 1;");
        fill(x, 0, 2, 1, 2, 3, 4, 5);
        fill(x, 1, 2, 9, 9, 9);
        due("copy", x.copy(0, 1, 1, 0, 2), 2);
        dueItems(x, "copy", 1, 2, 3, 9);
        due("copy onward within a row", x.copy(0, 0, 0, 1, 4), 4);
        dueItems(x, "copy onward", 0, 1, 1, 2, 3, 4);
        fill(x, 0, 2, 1, 2, 3, 4, 5);
        due("copy back within a row", x.copy(0, 1, 0, 0, 4), 4);
        dueItems(x, "copy back", 0, 2, 3, 4, 5, 5);
        due("none at the ends", x.copy(0, 5, 1, 3, 0), 0);
        due("row -1", x.copy(-1, 0, 0, 0, 0), BAD);
        due("row 8", x.copy(0, 0, 8, 0, 0), BAD);
        due("BAD ahead of NULL", x.copy(5, 0, 8, 0, 0), BAD);
        due("NULL from", x.copy(5, 0, 0, 0, 0), NULL);
        due("NULL to", x.copy(0, 0, 5, 0, 0), NULL);
        due("NULL ahead of PLACE", x.copy(0, -1, 5, 0, 0), NULL);
        x.row(2, 1, 5);
        due("STORE", x.copy(0, 0, 2, 0, 1), STORE);
        due("STORE of none", x.copy(0, 0, 2, 0, 0), STORE);
        due("STORE ahead of PLACE", x.copy(0, 0, 2, 0, -1), STORE);
        due("i -1", x.copy(0, -1, 1, 0, 1), PLACE);
        due("j -1", x.copy(0, 0, 1, -1, 1), PLACE);
        due("n -1", x.copy(0, 0, 1, 0, -1), PLACE);
        due("i beyond", x.copy(0, 6, 1, 0, 0), PLACE);
        due("j beyond", x.copy(0, 0, 1, 4, 0), PLACE);
        due("n beyond from", x.copy(0, 4, 0, 0, 2), PLACE);
        due("n beyond to", x.copy(0, 0, 1, 2, 2), PLACE);
        due("n MAX", x.copy(0, 1, 1, 1, MAX), PLACE);
        due("i MAX, n MAX", x.copy(0, MAX, 1, 0, MAX), PLACE);
        dueItems(x, "refused ones change nothing", 1, 2, 3, 9);
    }

    private static void promise5Drop() {
        AlikeHands x = new AlikeHands();
        x.row(3, 1, 17);
        due("drop", x.drop(3), 17);
        due("dropped", x.count(0), 0);
        due("drop again", x.drop(3), NULL);
        due("set of the dropped", x.set(3, 0, 1), NULL);
        x.row(3, 1, 0);
        due("drop of an empty one", x.drop(3), 0);
        due("row -1", x.drop(-1), BAD);
        due("row 8", x.drop(8), BAD);
    }

    private static void promise6Feed() {
        AlikeHands x = new AlikeHands();
        due("feed 0", x.feed(0L, 0), BAD);
        due("feed -1", x.feed(0L, -1), BAD);
        due("feed 9", x.feed(0L, 9), BAD);
        long half = 0x6469616C3132L; // dial12
        due("feed 6", x.feed(half | 0x7F7F000000000000L, 6), 6);
        due("feed 8", x.feed(0x3B68616E64206261L, 8), 14); // ;hand ba
        due("feed 5", x.feed(0x636B20373BL, 5), 19); // ck 7;
        due("fed in order", x.clock(), 1);
        due("fed in order, MARKS", x.count(2), 12);
        due("fed in order, SPEED", x.hand(0, 1), -7);
        for (int i = 1; i <= 24; i++) {
            due("feed", x.feed(0x2020202020202020L, 8), 8 * i);
        }
        due("feed to 195", x.feed(0L, 3), 195);
        due("feed of 6 at 195", x.feed(0L, 6), FULL);
        due("BAD ahead of FULL", x.feed(0L, 9), BAD);
        due("none came", x.count(5), 195);
        due("feed to 200", x.feed(0L, 5), 200);
        due("feed of 1 at 200", x.feed(0L, 1), FULL);
        due("byte 0 is no token", x.clock(), -1000100 - 192);
    }

    private static void promise7Clock() {
        dueRead("dial 12;hand hour 1;hand sweep 12;", 2);
        dueRead("dial2;hand hour1;", 1);
        dueRead(" \n dial\n60 ; \nhand\nback 012;hand tide 001 ; \n ", 2);
        dueRead("dial 12;hand hour 1;hand hour 1;hand hour 1;hand hour 1;", 4);
        AlikeHands x = clockOf("dial 12;hand hour 1;hand back 2;");
        due("nothing of an older tape is read", read(x, "dial 12;hand hour 1"), -1000100 - 19);
        due("tape behind a clock", x.count(5), 0);
        x.slip(0, 3);
        x.image(0);
        x.row(0, 0, 4);
        due("fault", read(x, "dial 20;hand hour 13;"), -1000100 - 18);
        due("tape behind a fault", x.count(5), 0);
        due("fault leaves the hands", x.count(1), 2);
        due("fault leaves MARKS", x.count(2), 12);
        due("fault leaves what slipped", x.hand(0, 2), 3);
        due("fault leaves acts", x.count(4), 1);
        due("another clock", read(x, "dial 30;hand tide 5;"), 1);
        due("no hand slipped", x.count(3), 0);
        due("no act can be undone", x.undo(), STATE);
        due("rows stay", x.count(0), 1);
        due("images stay", x.restore(0), 1);
        due("image's hands", x.count(1), 2);
    }

    private static void promise8Fault() {
        dueFault("", 0, 1);
        dueFault("  \n", 3, 1);
        dueFault("dial 12;", 8, 1);
        dueFault("dial 12; \n", 10, 1);
        dueFault("hand hour 1;", 0, 1);
        dueFault("dial 1;", 5, 2);
        dueFault("dial 0;", 5, 2);
        dueFault("dial 61;", 5, 2);
        dueFault("dial 999;", 5, 2);
        dueFault("dial 1000;", 5, 1);
        dueFault("dial 0012;", 5, 1);
        dueFault("dial;", 4, 1);
        dueFault("dial 12 hand hour 1;", 8, 1);
        dueFault("dial 12 13;", 8, 1);
        dueFault("dialx 12;", 0, 1);
        dueFault("dia 12;", 0, 1);
        dueFault("Dial 12;", 0, 1);
        dueFault(" \tdial 12;", 1, 1);
        dueFault("dial -2;", 5, 1);
        dueFault("dial 12;handhour 1;", 8, 1);
        dueFault("dial 12;hand noon 1;", 13, 1);
        dueFault("dial 12;hand hand 1;", 13, 1);
        dueFault("dial 12;hand hourz 1;", 13, 1);
        dueFault("dial 12;hand houra 1;", 13, 1);
        dueFault("dial 12;hand hour 1{;", 19, 1);
        dueFault("dial 12;hand hour 1`;", 19, 1);
        dueFault("dial 12;hand hour 1:;", 19, 1);
        dueFault("dial 12;hand hour 1/;", 19, 1);
        dueFault("dial 12;hand hour 0;", 18, 2);
        dueFault("dial 12;hand hour 13;", 18, 2);
        dueFault("dial 12;hand hour;", 17, 1);
        dueFault("dial 12;hand hour 1", 19, 1);
        dueFault("dial 12;hand hour 1;;", 20, 1);
        dueFault("dial 12;hand hour 1; x", 21, 1);
        dueFault("dial 12;hand hour 1; 7", 21, 1);
        dueFault("dial 12;hand hour 1;\u00e9", 20, 1);
        dueFault("dial 12;hand hour 0;hand noon 1;", 18, 2);
        String four = "dial 12;hand hour 1;hand hour 1;hand hour 1;hand hour 1;";
        dueFault(four + "hand hour 1;", four.length(), 3);
        dueFault(four + " hand", four.length() + 1, 3);
        dueFault(four + "hang", four.length(), 1);
        AlikeHands x = new AlikeHands();
        read(x, "dial 1;");
        due("fault 2", x.fault(), 2);
        read(x, "dial 2;hand hour 1;");
        due("fault stays behind a clock", x.fault(), 2);
        read(x, "dial");
        due("latest fault", x.fault(), 1);
    }

    private static void promise9Slip() {
        AlikeHands x = clockOf("dial 12;hand hour 1;hand back 2;");
        due("slip 5", x.slip(0, 5), 5);
        due("slip 60", x.slip(0, 60), 5);
        due("slip -6", x.slip(0, -6), 11);
        due("slip 1", x.slip(0, 1), 0);
        due("slip -60", x.slip(1, -60), 0);
        due("slip 0", x.slip(1, 0), 0);
        due("all are acts", x.count(4), 6);
        due("slip 61", x.slip(0, 61), BAD);
        due("slip -61", x.slip(0, -61), BAD);
        due("slip MIN", x.slip(0, MIN), BAD);
        due("hand 2 of 2", x.slip(2, 0), BAD);
        due("hand -1", x.slip(-1, 0), BAD);
        due("refused ones are no acts", x.count(4), 6);
        due("no clock", new AlikeHands().slip(0, 0), BAD);
    }

    private static void promise10Undo() {
        AlikeHands x = clockOf("dial 12;hand hour 1;hand back 2;");
        x.slip(0, 5);
        x.slip(1, -1);
        x.slip(0, 0);
        x.slip(0, 9);
        due("undo", x.undo(), 3);
        due("undone", x.hand(0, 2), 5);
        due("undo of slip 0", x.undo(), 2);
        due("undone", x.hand(0, 2), 5);
        due("undo of the other", x.undo(), 1);
        due("undone", x.hand(1, 2), 0);
        due("undo of the first", x.undo(), 0);
        due("undone", x.hand(0, 2), 0);
        due("none left", x.undo(), STATE);
        for (int i = 0; i < 26; i++) {
            x.slip(0, 1);
        }
        due("24 are kept", x.count(4), 24);
        for (int i = 23; i >= 0; i--) {
            due("undo", x.undo(), i);
        }
        due("the oldest are forgotten", x.undo(), STATE);
        due("and stay done", x.hand(0, 2), 2);
        promise10UndoOfManyHands();
    }

    private static void promise10UndoOfManyHands() {
        AlikeHands x = clockOf("dial 60;hand hour 1;hand hour 2;hand hour 3;");
        int[][] shown = new int[31][3];
        for (int act = 0; act < 30; act++) {
            int hand = act * act % 7 % 3;
            x.slip(hand, act + 1);
            for (int h = 0; h < 3; h++) {
                shown[act + 1][h] = x.hand(h, 2);
            }
        }
        for (int act = 29; act >= 6; act--) {
            due("undo of act " + act, x.undo(), act - 6);
            for (int h = 0; h < 3; h++) {
                due("hand " + h + " ahead of act " + act, x.hand(h, 2), shown[act][h]);
            }
        }
        due("of 30, 24 are undone", x.undo(), STATE);
    }

    private static void promise11Hand() {
        AlikeHands x = clockOf(FIVE_SORTS_BUT_TIDE);
        int[] speeds = {1, 2, 3, -4};
        for (int h = 0; h < 4; h++) {
            due("TURNS", x.hand(h, 0), h + 1);
            due("SPEED", x.hand(h, 1), speeds[h]);
            due("slipped", x.hand(h, 2), 0);
        }
        AlikeHands t = clockOf("dial 60;hand tide 12;");
        due("TURNS of a tide", t.hand(0, 0), 12);
        due("SPEED of a tide", t.hand(0, 1), 24);
        t.slip(0, -1);
        due("slipped", t.hand(0, 2), 59);
        due("what 3", t.hand(0, 3), BAD);
        due("what -1", t.hand(0, -1), BAD);
        due("hand 1 of 1", t.hand(1, 0), BAD);
        due("hand -1", t.hand(-1, 0), BAD);
        due("hand MAX", t.hand(MAX, 0), BAD);
    }

    private static void promise12Points() {
        AlikeHands x = clockOf("dial 12;hand hour 1;hand back 3;hand tide 5;");
        duePoints(x, 0, 0, 5, 0, 1);
        duePoints(x, 0, 6, 9, 2, 3);
        duePoints(x, 1, 1, 12, 3, 4);
        duePoints(x, 2, 1, 12, 5, 6);
        duePoints(x, 1, 1, 3, 0, 1);
        x.slip(0, 5);
        duePoints(x, 0, 0, 1, 5, 12);
        duePoints(x, 0, 7, 12, 0, 1);
        duePoints(x, 0, 8, 12, 1, 12);
        x.slip(1, 11);
        duePoints(x, 1, 1, 7, 41, 84);
        duePoints(x, 0, 9998, 9999, 16661, 39996);
        due("p below 0", x.points(0, -1, 5, 0), BAD);
        due("p as q", x.points(0, 5, 5, 0), BAD);
        due("q 0", x.points(0, 0, 0, 0), BAD);
        due("q 10000", x.points(0, 0, 10000, 0), BAD);
        due("q MIN", x.points(0, 0, MIN, 0), BAD);
        due("what 2", x.points(0, 0, 1, 2), BAD);
        due("what -1", x.points(0, 0, 1, -1), BAD);
        due("hand 3 of 3", x.points(3, 0, 1, 0), BAD);
    }

    private static void duePairsAreBad(String name, java.util.function.IntBinaryOperator call) {
        int[][] pairs = {{0, 0}, {1, 1}, {0, 2}, {2, 0}, {-1, 0}, {0, -1}, {MAX, MIN}};
        for (int[] pair : pairs) {
            due(name + " of " + pair[0] + ", " + pair[1], call.applyAsInt(pair[0], pair[1]), BAD);
        }
    }

    private static void promise13Doubts() {
        due("1 and 12", clockOf("dial 12;hand hour 1;hand hour 12;").doubts(0, 1), 132);
        due("12 and 1", clockOf("dial 12;hand hour 1;hand hour 12;").doubts(1, 0), 132);
        due("1 and 2", clockOf("dial 12;hand hour 1;hand hour 2;").doubts(0, 1), 2);
        due("2 and 4, all of 6", clockOf("dial 12;hand hour 2;hand moon 4;").doubts(0, 1), 6);
        due("1 and -2, none", clockOf("dial 12;hand hour 1;hand back 2;").doubts(0, 1), 0);
        due("3 and -1", clockOf("dial 12;hand hour 3;hand back 1;").doubts(0, 1), 4);
        due("alike speeds", clockOf("dial 12;hand hour 4;hand tide 2;").doubts(0, 1), NONE);
        due("as great the other way", clockOf("dial 12;hand hour 4;hand back 4;").doubts(0, 1), NONE);
        AlikeHands x = clockOf("dial 12;hand hour 1;hand hour 12;");
        x.slip(0, 5);
        due("nothing slipped", x.doubts(0, 1), 132);
        duePairsAreBad("doubts", x::doubts);
        duePairsAreBad("doubts without a clock", (a, b) -> new AlikeHands().doubts(a, b));
    }

    private static void promise14Doubt() {
        AlikeHands x = clockOf("dial 12;hand hour 1;hand hour 12;");
        dueDoubt(x, 0, 1, 143, 12, 143);
        dueDoubt(x, 9, 10, 143, 120, 143);
        dueDoubt(x, 10, 1, 13, 12, 13);
        dueDoubt(x, 11, 12, 143, 1, 143);
        dueDoubt(x, 131, 142, 143, 131, 143);
        due("not so many", x.doubt(0, 1, 132, 0), NONE);
        due("not so many, MAX", x.doubt(0, 1, MAX, 3), NONE);
        due("i -1", x.doubt(0, 1, -1, 0), BAD);
        due("what 4", x.doubt(0, 1, 0, 4), BAD);
        due("what -1", x.doubt(0, 1, 0, -1), BAD);
        due("BAD ahead of NONE", x.doubt(0, 1, 132, 4), BAD);
        duePairsAreBad("doubt", (a, b) -> x.doubt(a, b, 0, 0));
        AlikeHands shared = clockOf("dial 12;hand hour 2;hand moon 4;");
        dueDoubt(shared, 0, 0, 1, 1, 2);
        dueDoubt(shared, 1, 1, 6, 1, 3);
        dueDoubt(shared, 3, 1, 2, 0, 1);
        due("not so many of 6", shared.doubt(0, 1, 6, 0), NONE);
        AlikeHands alike = clockOf("dial 12;hand hour 4;hand back 4;");
        due("speeds as great", alike.doubt(0, 1, 0, 0), NONE);
        due("BAD i, speeds as great", alike.doubt(0, 1, -1, 0), BAD);
    }

    private static void promise15IsDoubt() {
        AlikeHands x = clockOf("dial 12;hand hour 1;hand hour 12;");
        due("0", x.isDoubt(0, 1, 0, 1), 0);
        due("1 by 143", x.isDoubt(0, 1, 1, 143), 1);
        due("2 by 286", x.isDoubt(0, 1, 2, 286), 1);
        due("1 by 286", x.isDoubt(0, 1, 1, 286), 0);
        due("1 by 11", x.isDoubt(0, 1, 1, 11), 0);
        due("1 by 13", x.isDoubt(0, 1, 1, 13), 1);
        due("9998 by 9999", x.isDoubt(0, 1, 9998, 9999), 0);
        AlikeHands shared = clockOf("dial 12;hand hour 2;hand moon 4;");
        due("0 of hands that share", shared.isDoubt(0, 1, 0, 7), 1);
        due("0 by 1 of hands that share", shared.isDoubt(0, 1, 0, 1), 1);
        due("one whose other is 0", shared.isDoubt(0, 1, 1, 2), 1);
        due("speeds as great", clockOf("dial 12;hand hour 4;hand tide 2;").isDoubt(0, 1, 0, 1), NONE);
        due("BAD ahead of NONE", clockOf("dial 12;hand hour 4;hand tide 2;").isDoubt(0, 1, 1, 1), BAD);
        due("p as q", x.isDoubt(0, 1, 1, 1), BAD);
        due("p -1", x.isDoubt(0, 1, -1, 1), BAD);
        due("q 0", x.isDoubt(0, 1, 0, 0), BAD);
        due("q 10000", x.isDoubt(0, 1, 0, 10000), BAD);
        duePairsAreBad("isDoubt", (a, b) -> x.isDoubt(a, b, 0, 1));
    }

    private static void promise16Next() {
        AlikeHands x = clockOf("dial 12;hand hour 1;hand hour 12;");
        dueNext(x, 0, 0, 1, 0, 1);
        dueNext(x, 0, 1, 9999, 1, 11);
        dueNext(x, 0, 1, 11, 1, 11);
        dueNext(x, 0, 2, 21, 2, 11);
        dueNext(x, 0, 10, 11, 10, 11);
        dueNext(x, 0, 21, 23, 0, 1);
        dueNext(x, 1, 0, 1, 1, 22);
        dueNext(x, 1, 1, 22, 1, 22);
        dueNext(x, 1, 1, 2, 1, 2);
        dueNext(x, 1, 9998, 9999, 1, 22);
        dueNext(x, 2, 0, 1, 1, 44);
        dueNext(x, 2, 1, 22, 3, 44);
        dueNext(x, 2, 43, 44, 43, 44);
        dueNext(x, 2, 87, 88, 1, 44);
        x.slip(1, 3);
        dueNext(x, 0, 0, 1, 0, 1);
        AlikeHands one = clockOf("dial 12;hand hour 1;hand hour 2;");
        dueNext(one, 0, 1, 9999, 0, 1);
        dueNext(one, 1, 0, 1, 1, 2);
        dueNext(one, 2, 1, 2, 3, 4);
        AlikeHands against = clockOf("dial 12;hand hour 2;hand back 2;");
        dueNext(against, 0, 1, 8, 1, 4);
        AlikeHands alike = clockOf("dial 12;hand hour 4;hand tide 2;");
        due("speeds alike", alike.next(0, 1, 0, 0, 1, 0), NONE);
        due("BAD ahead of NONE", alike.next(0, 1, 3, 0, 1, 0), BAD);
        due("how 3", x.next(0, 1, 3, 0, 1, 0), BAD);
        due("how -1", x.next(0, 1, -1, 0, 1, 0), BAD);
        due("what 2", x.next(0, 1, 0, 0, 1, 2), BAD);
        due("what -1", x.next(0, 1, 0, 0, 1, -1), BAD);
        due("p as q", x.next(0, 1, 0, 1, 1, 0), BAD);
        due("q 10000", x.next(0, 1, 0, 0, 10000, 0), BAD);
        duePairsAreBad("next", (a, b) -> x.next(a, b, 0, 0, 1, 0));
    }

    private static void promise17Often() {
        AlikeHands x = clockOf("dial 12;hand hour 1;hand hour 12;");
        due("together", x.often(0, 1, 0), 11);
        due("across", x.often(1, 0, 1), 11);
        due("square", x.often(0, 1, 2), 22);
        due("against", clockOf("dial 12;hand hour 3;hand back 4;").often(0, 1, 0), 7);
        due("speeds alike", clockOf("dial 12;hand hour 4;hand tide 2;").often(0, 1, 0), NONE);
        due("as great the other way", clockOf("dial 12;hand hour 4;hand back 4;").often(0, 1, 1), 8);
        due("how 3", x.often(0, 1, 3), BAD);
        due("how -1", x.often(0, 1, -1), BAD);
        duePairsAreBad("often", (a, b) -> x.often(a, b, 0));
    }

    private static void promise18All() {
        due("no clock", new AlikeHands().all(), STATE);
        due("one hand", clockOf("dial 2;hand hour 5;").all(), NONE);
        due("alike speeds", clockOf("dial 2;hand hour 4;hand tide 2;hand moon 4;").all(), NONE);
        due("two hands", clockOf("dial 2;hand hour 1;hand hour 12;").all(), 11);
        due("three hands", clockOf("dial 2;hand hour 1;hand hour 7;hand back 8;").all(), 3);
        due("some alike", clockOf("dial 2;hand hour 4;hand tide 2;hand back 4;").all(), 8);
        due("four hands", clockOf("dial 2;hand hour 2;hand hour 8;hand tide 7;hand back 1;").all(), 3);
    }

    private static void dueLies(AlikeHands x, int row, int i, int parts, int is, int moved, int above, int below) {
        String what = "lies(" + row + ", " + i + ", " + parts + ")";
        due(what + " is", x.lies(row, i, parts, 0), is);
        due(what + " moved", x.lies(row, i, parts, 1), moved);
        duePair(what, x.lies(row, i, parts, 2), x.lies(row, i, parts, 3), above, below);
    }

    private static void promise19Lies() {
        AlikeHands none = new AlikeHands();
        due("no clock", none.lies(0, 0, 1, 0), STATE);
        due("no clock, ahead of BAD", none.lies(8, 0, 0, 9), STATE);
        AlikeHands x = clockOf("dial 12;hand hour 1;hand hour 12;");
        due("missing row", x.lies(0, 0, 12, 0), NULL);
        fill(x, 0, 2, 1, 0, 1, 6, 12, 0, 6, 6);
        dueLies(x, 0, 0, 12, 1, 3, 0, 1);
        dueLies(x, 0, 2, 12, 0, 3, 1, 2);
        dueLies(x, 0, 6, 12, 0, 3, 1, 2);
        dueLies(x, 0, 2, 60, 0, 3, 1, 10);
        fill(x, 2, 2, 0, 11, 11, 1);
        dueLies(x, 2, 0, 12, 0, 3, 1, 12);
        dueLies(x, 2, 2, 12, 0, 3, 1, 12);
        due("item D", x.lies(0, 4, 12, 0), BAD);
        due("item D - 1", x.lies(0, 4, 13, 0), 0);
        due("row 8", x.lies(8, 0, 12, 0), BAD);
        due("row -1", x.lies(-1, 0, 12, 0), BAD);
        due("D 0", x.lies(0, 0, 0, 0), BAD);
        due("D 721", x.lies(0, 0, 721, 0), BAD);
        due("D 0 ahead of NULL", x.lies(1, 0, 0, 0), BAD);
        due("D 720", x.lies(0, 0, 720, 0), 0);
        due("what 4", x.lies(0, 0, 12, 4), BAD);
        due("what -1", x.lies(0, 0, 12, -1), BAD);
        due("BAD ahead of NULL", x.lies(1, 0, 12, 4), BAD);
        due("place -1", x.lies(0, -1, 12, 0), PLACE);
        due("place 7 of 8", x.lies(0, 7, 12, 0), PLACE);
        due("place MAX", x.lies(0, MAX, 12, 0), PLACE);
        due("PLACE ahead of an item", x.lies(0, 7, 1, 0), PLACE);
        fill(x, 1, 0, -1, 0);
        due("item below 0", x.lies(1, 0, 12, 0), BAD);
        x.slip(0, 1);
        dueLies(x, 0, 0, 12, 1, 3, 0, 1);
        AlikeHands one = clockOf("dial 12;hand back 5;");
        fill(one, 0, 0, 3);
        dueLies(one, 0, 0, 7, 1, 1, 0, 1);
        AlikeHands two = clockOf("dial 12;hand hour 2;hand hour 1;");
        fill(two, 0, 0, 0, 0, 0, 2, 0, 1, 2, 2);
        dueLies(two, 0, 0, 4, 1, 3, 0, 1);
        dueLies(two, 0, 2, 4, 1, 3, 0, 1);
        dueLies(two, 0, 4, 4, 0, 3, 1, 4);
        dueLies(two, 0, 6, 8, 0, 3, 1, 8);
        AlikeHands three = clockOf("dial 12;hand hour 2;hand back 1;hand tide 2;");
        fill(three, 0, 0, 0, 0, 0, 2, 3, 4, 0, 2, 3, 1, 0, 0);
        dueLies(three, 0, 0, 4, 1, 7, 0, 1);
        dueLies(three, 0, 0, 6, 1, 7, 0, 1);
        dueLies(three, 0, 3, 8, 1, 7, 0, 1);
        dueLies(three, 0, 6, 4, 0, 4, 1, 4);
        dueLies(three, 0, 9, 4, 0, 1, NONE, NONE);
        fill(three, 0, 0, 1, 0, 1);
        dueLies(three, 0, 0, 4, 0, 0, NONE, NONE);
    }

    private static void promise20FirstLie() {
        due("no clock", new AlikeHands().firstLie(0, 1, 1), STATE);
        due("no clock, ahead of BAD", new AlikeHands().firstLie(8, 0, 0), STATE);
        AlikeHands x = clockOf("dial 12;hand hour 1;hand hour 12;");
        due("missing row", x.firstLie(0, 1, 12), NULL);
        fill(x, 0, 2, 1, 0, 5, 0, 1, 6, 2, 0, 3, 3);
        due("third of five", x.firstLie(0, 5, 12), 2);
        due("none of two", x.firstLie(0, 2, 12), NONE);
        due("fits", x.firstLie(0, 5, 60), 0);
        due("place", x.firstLie(0, 6, 12), PLACE);
        due("an item of a later reading", x.firstLie(0, 5, 6), BAD);
        due("an item beyond the readings", x.firstLie(0, 1, 2), NONE);
        due("PLACE ahead of an item", x.firstLie(0, 6, 1), PLACE);
        due("row 8", x.firstLie(8, 1, 12), BAD);
        due("n 0", x.firstLie(0, 0, 12), BAD);
        due("n 11", x.firstLie(0, 11, 12), BAD);
        due("n MAX", x.firstLie(0, MAX, 12), BAD);
        due("D 0", x.firstLie(0, 1, 0), BAD);
        due("D 721", x.firstLie(0, 1, 721), BAD);
        due("BAD ahead of NULL", x.firstLie(1, 1, 721), BAD);
        due("D 0 ahead of NULL", x.firstLie(1, 1, 0), BAD);
        AlikeHands four = clockOf(FIVE_SORTS_BUT_TIDE);
        four.row(0, 0, 40);
        due("ten of four", four.firstLie(0, 10, 720), NONE);
        four.set(0, 39, 1);
        due("the last of ten", four.firstLie(0, 10, 720), 9);
    }

    private static void promise21Glass() {
        due("no clock", new AlikeHands().glass(0, 1, 0), STATE);
        due("no clock, ahead of BAD", new AlikeHands().glass(1, 1, 9), STATE);
        AlikeHands x = clockOf("dial 12;hand hour 1;hand back 2;hand tide 2;");
        duePair("glass of 0", x.glass(0, 7, 0), x.glass(0, 7, 1), 0, 1);
        duePair("glass of 2 by 8", x.glass(2, 8, 0), x.glass(2, 8, 1), 3, 4);
        duePair("glass of 1 by 9999", x.glass(1, 9999, 0), x.glass(1, 9999, 1), 9998, 9999);
        due("true at 0", x.glass(0, 1, 2), 7);
        due("true at 1 by 2", x.glass(1, 2, 2), 7);
        due("true at 1 by 4", x.glass(1, 4, 2), 6);
        due("true at 1 by 8", x.glass(1, 8, 2), 4);
        due("true at 1 by 3", x.glass(1, 3, 2), 0);
        x.slip(0, 3);
        duePair("glass of one that slipped", x.glass(1, 4, 0), x.glass(1, 4, 1), 3, 4);
        due("true with what slipped", x.glass(1, 4, 2), 7);
        x.slip(1, 1);
        due("true with what slipped", x.glass(1, 4, 2), 5);
        due("p as q", x.glass(1, 1, 0), BAD);
        due("p -1", x.glass(-1, 1, 0), BAD);
        due("q 0", x.glass(0, 0, 0), BAD);
        due("q 10000", x.glass(0, 10000, 0), BAD);
        due("what 3", x.glass(0, 1, 3), BAD);
        due("what -1", x.glass(0, 1, -1), BAD);
    }

    private static void promises22And23Images() {
        AlikeHands x = new AlikeHands();
        due("image without a clock", x.image(0), STATE);
        due("image 2", x.image(2), BAD);
        due("image -1", x.image(-1), BAD);
        due("restore none", x.restore(1), STATE);
        due("restore 2", x.restore(2), BAD);
        due("restore -1", x.restore(-1), BAD);
        read(x, "dial 12;hand hour 1;hand back 2;");
        x.slip(1, 4);
        due("image 0", x.image(0), 1);
        due("acts stay with an image", x.count(4), 1);
        x.slip(1, 1);
        due("restore 1, none kept", x.restore(1), STATE);
        due("image 1", x.image(1), 1);
        read(x, "dial 30;hand tide 7;");
        x.slip(0, 1);
        due("restore 0", x.restore(0), 1);
        due("HANDS", x.count(1), 2);
        due("MARKS", x.count(2), 12);
        due("TURNS", x.hand(1, 0), 2);
        due("SPEED", x.hand(1, 1), -2);
        due("slipped", x.hand(1, 2), 4);
        due("no acts", x.count(4), 0);
        due("none to undo", x.undo(), STATE);
        x.slip(1, 2);
        due("restore 0 again", x.restore(0), 1);
        due("an image is no part of the clock", x.hand(1, 2), 4);
        due("restore 1", x.restore(1), 1);
        due("slipped", x.hand(1, 2), 5);
        x.slip(0, 1);
        due("image 0 anew", x.image(0), 1);
        due("restore 1 again", x.restore(1), 1);
        due("restore 0 anew", x.restore(0), 1);
        due("slipped, both", x.count(3), 2);
    }

    private static void promises24And25Kinds() {
        AlikeHands[] clocks = {clockOf(FIVE_SORTS_BUT_TIDE), clockOf("dial 2;hand tide 1;")};
        String[] isOne = {"110000", "111000", "110100", "100010", "100011"};
        for (int kind = 1; kind <= 5; kind++) {
            AlikeHands x = clocks[kind / 5];
            int hand = kind == 5 ? 0 : kind - 1;
            due("kind", x.kind(hand), kind);
            for (int as = 0; as <= 5; as++) {
                boolean is = isOne[kind - 1].charAt(as) == '1';
                due("kind " + kind + " as " + as, x.as(hand, as), is ? hand : KIND);
                due("status of it", x.status(), is ? 0 : 3);
            }
            due("as -1", x.as(hand, -1), BAD);
            due("as 6", x.as(hand, 6), BAD);
            due("kind still", x.kind(hand), kind);
        }
        due("kind of hand 4", clocks[0].kind(4), BAD);
        due("kind of hand -1", clocks[0].kind(-1), BAD);
        due("hand 1 of 1", clocks[1].as(1, 0), BAD);
        due("hand -1", clocks[1].as(-1, 0), BAD);
    }

    private static void promises26And27Asks() {
        AlikeHands x = clockOf("dial 60;hand hour 5;hand moon 6;hand sweep 7;hand back 8;");
        for (int h = 0; h < 4; h++) {
            x.slip(h, 10 + h);
        }
        dueAsk(x, 0, 0, 15, 11, 10, 21, 20);
        dueAsk(x, 0, 1, 10, 21, 20);
        dueAsk(x, 1, 0, -30, 12, 11, 10, 24, 21, 20);
        dueAsk(x, 1, 1, 24, 24, 21, 20);
        dueAsk(x, 2, 0, -979, 11, 10, 22, 21, 20);
        dueAsk(x, 2, 1, -986, 22, 21, 20);
        dueAsk(x, 3, 0, -92, 13, 10);
        dueAsk(x, 3, 1, 95, 23, 20, 13, 10);
        AlikeHands t = clockOf("dial 2;hand back 1;hand tide 4;");
        dueAsk(t, 1, 0, -192, 14, 13, 10);
        dueAsk(t, 1, 1, 193, 23, 20, 14, 13, 10);
        due("hand 2 of 2", t.ask(2, 0), BAD);
        due("hand -1", t.ask(-1, 0), BAD);
        due("what 2", t.ask(0, 2), BAD);
        due("what -1", t.ask(0, -1), BAD);
        due("the trace stays behind refused asks", t.trace(0), 23);
        due("and its end", t.trace(4), 10);
        due("trace -1", t.trace(-1), NONE);
        due("trace 5", t.trace(5), NONE);
        due("trace 16", t.trace(16), NONE);
        due("trace MAX", t.trace(MAX), NONE);
        due("trace MIN", t.trace(MIN), NONE);
        read(t, "dial 3;hand hour 1;");
        due("the trace stays behind a clock", t.trace(2), 14);
    }

    private static void promise28Count() {
        AlikeHands x = clockOf("dial 12;hand hour 1;hand back 2;hand moon 3;");
        x.row(0, 0, 0);
        x.row(5, 2, 40);
        x.slip(0, 1);
        x.slip(1, 12);
        x.slip(2, 2);
        x.feed(0L, 7);
        int[] want = {2, 3, 12, 2, 3, 7};
        for (int what = 0; what < want.length; what++) {
            due("count(" + what + ")", x.count(what), want[what]);
        }
        due("count(6)", x.count(6), BAD);
        due("count(-1)", x.count(-1), BAD);
        x.slip(0, -1);
        due("slipped back", x.count(3), 1);
    }

    private static void promise29Status() {
        AlikeHands x = new AlikeHands();
        x.set(0, 0, 0);
        due("NULL", x.status(), 1);
        x.set(8, 0, 0);
        due("BAD leaves it", x.status(), 1);
        x.lies(0, 0, 1, 0);
        x.firstLie(0, 1, 1);
        due("STATE leaves it", x.status(), 1);
        x.feed(0L, 1);
        x.count(9);
        x.clock();
        due("others leave it", x.status(), 1);
        x.row(0, 0, -1);
        due("SIZE", x.status(), 4);
        x.row(0, 0, 2);
        due("row clears it", x.status(), 0);
        x.set(0, 2, 0);
        due("PLACE", x.status(), 2);
        x.set(0, 1, 0);
        due("set clears it", x.status(), 0);
        x.row(1, 1, 2);
        x.copy(0, 0, 1, 0, 1);
        due("STORE", x.status(), 5);
        x.copy(0, 0, 0, 0, 0);
        due("copy clears it", x.status(), 0);
        x.drop(2);
        due("NULL of drop", x.status(), 1);
        x.drop(1);
        due("drop clears it", x.status(), 0);
        read(x, "dial 2;hand hour 1;hand hour 2;");
        x.as(0, 2);
        due("KIND", x.status(), 3);
        x.as(2, 2);
        x.kind(0);
        x.ask(0, 0);
        x.slip(0, 1);
        due("others leave it", x.status(), 3);
        x.as(0, 1);
        due("as clears it", x.status(), 0);
        x.lies(0, 1, 2, 0);
        due("PLACE of lies", x.status(), 2);
        x.set(0, 1, -1);
        x.drop(3);
        x.lies(0, 0, 2, 0);
        x.firstLie(0, 1, 2);
        due("BAD of an item leaves it", x.status(), 1);
        x.set(0, 1, 1);
        x.drop(3);
        due("lies", x.lies(0, 0, 2, 0), 0);
        due("lies clears it", x.status(), 0);
        x.firstLie(0, 2, 2);
        due("PLACE of firstLie", x.status(), 2);
        due("firstLie", x.firstLie(0, 1, 2), 0);
        due("firstLie clears it", x.status(), 0);
    }

    public static void main(String[] args) {
        promise1NewObject();
        promise2Row();
        promise3Set();
        promise4Copy();
        promise5Drop();
        promise6Feed();
        promise7Clock();
        promise8Fault();
        promise9Slip();
        promise10Undo();
        promise11Hand();
        promise12Points();
        promise13Doubts();
        promise14Doubt();
        promise15IsDoubt();
        promise16Next();
        promise17Often();
        promise18All();
        promise19Lies();
        promise20FirstLie();
        promise21Glass();
        promises22And23Images();
        promises24And25Kinds();
        promises26And27Asks();
        promise28Count();
        promise29Status();
        end();
    }
}
